set_option maxRecDepth 20000 in
theorem gX3_doMinute_X0_moveCars : GoodIn wsX3_doMinute (wsV RX3 74 RX0 yX0_moveCars wsX0_moveCars) := goodIn_app (goodIn_of _ (by decide +kernel)) ggX3_doMinute_X0_moveCars
theorem dX3_doMinute_0 : decode cX3_doMinute 0 = .ok (.aload_n 0, 1) := by decide +kernel
theorem dX3_doMinute_1 : decode cX3_doMinute 1 = .ok (.invokevirtual 45, 3) := by decide +kernel
theorem dX3_doMinute_4 : decode cX3_doMinute 4 = .ok (.iconst 0, 1) := by decide +kernel
theorem dX3_doMinute_5 : decode cX3_doMinute 5 = .ok (.istore_n 1, 1) := by decide +kernel
theorem dX3_doMinute_6 : decode cX3_doMinute 6 = .ok (.iload_n 1, 1) := by decide +kernel
theorem dX3_doMinute_7 : decode cX3_doMinute 7 = .ok (.aload_n 0, 1) := by decide +kernel
theorem dX3_doMinute_8 : decode cX3_doMinute 8 = .ok (.getfield 21, 3) := by decide +kernel
theorem dX3_doMinute_11 : decode cX3_doMinute 11 = .ok (.invokevirtual 48, 3) := by decide +kernel
theorem dX3_doMinute_14 : decode cX3_doMinute 14 = .ok (.if_icmp .ge 14, 3) := by decide +kernel
theorem dX3_doMinute_17 : decode cX3_doMinute 17 = .ok (.aload_n 0, 1) := by decide +kernel
theorem dX3_doMinute_18 : decode cX3_doMinute 18 = .ok (.iload_n 1, 1) := by decide +kernel
theorem dX3_doMinute_19 : decode cX3_doMinute 19 = .ok (.invokevirtual 52, 3) := by decide +kernel
theorem dX3_doMinute_22 : decode cX3_doMinute 22 = .ok (.iinc 1 1, 3) := by decide +kernel
theorem dX3_doMinute_25 : decode cX3_doMinute 25 = .ok (.goto (-19), 3) := by decide +kernel
theorem dX3_doMinute_28 : decode cX3_doMinute 28 = .ok (.aload_n 0, 1) := by decide +kernel
theorem dX3_doMinute_29 : decode cX3_doMinute 29 = .ok (.invokevirtual 56, 3) := by decide +kernel
theorem dX3_doMinute_32 : decode cX3_doMinute 32 = .ok (.iconst 0, 1) := by decide +kernel
theorem dX3_doMinute_33 : decode cX3_doMinute 33 = .ok (.istore_n 1, 1) := by decide +kernel
theorem dX3_doMinute_34 : decode cX3_doMinute 34 = .ok (.iload_n 1, 1) := by decide +kernel
theorem dX3_doMinute_35 : decode cX3_doMinute 35 = .ok (.aload_n 0, 1) := by decide +kernel
theorem dX3_doMinute_36 : decode cX3_doMinute 36 = .ok (.getfield 21, 3) := by decide +kernel
theorem dX3_doMinute_39 : decode cX3_doMinute 39 = .ok (.invokevirtual 48, 3) := by decide +kernel
theorem dX3_doMinute_42 : decode cX3_doMinute 42 = .ok (.if_icmp .ge 14, 3) := by decide +kernel
theorem dX3_doMinute_45 : decode cX3_doMinute 45 = .ok (.aload_n 0, 1) := by decide +kernel
theorem dX3_doMinute_46 : decode cX3_doMinute 46 = .ok (.iload_n 1, 1) := by decide +kernel
theorem dX3_doMinute_47 : decode cX3_doMinute 47 = .ok (.invokevirtual 59, 3) := by decide +kernel
theorem dX3_doMinute_50 : decode cX3_doMinute 50 = .ok (.iinc 1 1, 3) := by decide +kernel
theorem dX3_doMinute_53 : decode cX3_doMinute 53 = .ok (.goto (-19), 3) := by decide +kernel
theorem dX3_doMinute_56 : decode cX3_doMinute 56 = .ok (.iconst 0, 1) := by decide +kernel
theorem dX3_doMinute_57 : decode cX3_doMinute 57 = .ok (.istore_n 1, 1) := by decide +kernel
theorem dX3_doMinute_58 : decode cX3_doMinute 58 = .ok (.iload_n 1, 1) := by decide +kernel
theorem dX3_doMinute_59 : decode cX3_doMinute 59 = .ok (.aload_n 0, 1) := by decide +kernel
theorem dX3_doMinute_60 : decode cX3_doMinute 60 = .ok (.getfield 28, 3) := by decide +kernel
theorem dX3_doMinute_63 : decode cX3_doMinute 63 = .ok (.invokevirtual 48, 3) := by decide +kernel
theorem dX3_doMinute_66 : decode cX3_doMinute 66 = .ok (.if_icmp .ge 24, 3) := by decide +kernel
theorem dX3_doMinute_69 : decode cX3_doMinute 69 = .ok (.aload_n 0, 1) := by decide +kernel
theorem dX3_doMinute_70 : decode cX3_doMinute 70 = .ok (.aload_n 0, 1) := by decide +kernel
theorem dX3_doMinute_71 : decode cX3_doMinute 71 = .ok (.getfield 28, 3) := by decide +kernel
theorem dX3_doMinute_74 : decode cX3_doMinute 74 = .ok (.iload_n 1, 1) := by decide +kernel
theorem dX3_doMinute_75 : decode cX3_doMinute 75 = .ok (.invokevirtual 62, 3) := by decide +kernel
theorem dX3_doMinute_78 : decode cX3_doMinute 78 = .ok (.checkcast 66, 3) := by decide +kernel
theorem dX3_doMinute_81 : decode cX3_doMinute 81 = .ok (.invokevirtual 68, 3) := by decide +kernel
theorem dX3_doMinute_84 : decode cX3_doMinute 84 = .ok (.iinc 1 1, 3) := by decide +kernel
theorem dX3_doMinute_87 : decode cX3_doMinute 87 = .ok (.goto (-29), 3) := by decide +kernel
theorem dX3_doMinute_90 : decode cX3_doMinute 90 = .ok (.iconst 0, 1) := by decide +kernel
theorem dX3_doMinute_91 : decode cX3_doMinute 91 = .ok (.istore_n 1, 1) := by decide +kernel
theorem dX3_doMinute_92 : decode cX3_doMinute 92 = .ok (.iload_n 1, 1) := by decide +kernel
theorem dX3_doMinute_93 : decode cX3_doMinute 93 = .ok (.aload_n 0, 1) := by decide +kernel
theorem dX3_doMinute_94 : decode cX3_doMinute 94 = .ok (.getfield 21, 3) := by decide +kernel
theorem dX3_doMinute_97 : decode cX3_doMinute 97 = .ok (.invokevirtual 48, 3) := by decide +kernel
theorem dX3_doMinute_100 : decode cX3_doMinute 100 = .ok (.if_icmp .ge 23, 3) := by decide +kernel
theorem dX3_doMinute_103 : decode cX3_doMinute 103 = .ok (.aload_n 0, 1) := by decide +kernel
theorem dX3_doMinute_104 : decode cX3_doMinute 104 = .ok (.getfield 21, 3) := by decide +kernel
theorem dX3_doMinute_107 : decode cX3_doMinute 107 = .ok (.iload_n 1, 1) := by decide +kernel
theorem dX3_doMinute_108 : decode cX3_doMinute 108 = .ok (.invokevirtual 62, 3) := by decide +kernel
theorem dX3_doMinute_111 : decode cX3_doMinute 111 = .ok (.checkcast 72, 3) := by decide +kernel
theorem dX3_doMinute_114 : decode cX3_doMinute 114 = .ok (.invokevirtual 74, 3) := by decide +kernel
theorem dX3_doMinute_117 : decode cX3_doMinute 117 = .ok (.iinc 1 1, 3) := by decide +kernel
theorem dX3_doMinute_120 : decode cX3_doMinute 120 = .ok (.goto (-28), 3) := by decide +kernel
theorem dX3_doMinute_123 : decode cX3_doMinute 123 = .ok (.aload_n 0, 1) := by decide +kernel
theorem dX3_doMinute_124 : decode cX3_doMinute 124 = .ok (.dup, 1) := by decide +kernel
theorem dX3_doMinute_125 : decode cX3_doMinute 125 = .ok (.getfield 42, 3) := by decide +kernel
theorem dX3_doMinute_128 : decode cX3_doMinute 128 = .ok (.iconst 1, 1) := by decide +kernel
theorem dX3_doMinute_129 : decode cX3_doMinute 129 = .ok (.iadd, 1) := by decide +kernel
theorem dX3_doMinute_130 : decode cX3_doMinute 130 = .ok (.putfield 42, 3) := by decide +kernel
theorem dX3_doMinute_133 : decode cX3_doMinute 133 = .ok (.return_, 1) := by decide +kernel
set_option maxRecDepth 20000 in
theorem ggX3_bringAll_Jx4a65c_size_8abf5 : GoodIn wsX3_bringAll wsJx4a65c_size_8abf5 := goodIn_r _ [12, 13, 73, 74, 75] (by decide +kernel) (by decide +kernel)
set_option maxRecDepth 20000 in
theorem gX3_bringAll_Jx4a65c_size_8abf5 : GoodIn wsX3_bringAll (wsV RX3 48 RJx4a65c yJx4a65c_size_8abf5 wsJx4a65c_size_8abf5) := goodIn_app (goodIn_of _ (by decide +kernel)) ggX3_bringAll_Jx4a65c_size_8abf5
set_option maxRecDepth 20000 in
theorem ggX3_bringAll_Jx4a65c_get_915e3 : GoodIn wsX3_bringAll wsJx4a65c_get_915e3 := goodIn_r _ [17, 13, 18, 19, 20, 21, 22, 23, 24, 25, 26, 27, 28, 11, 29, 30, 73, 74, 75] (by decide +kernel) (by decide +kernel)
set_option maxRecDepth 20000 in
theorem gX3_bringAll_Jx4a65c_get_915e3 : GoodIn wsX3_bringAll (wsV RX3 62 RJx4a65c yJx4a65c_get_915e3 wsJx4a65c_get_915e3) := goodIn_app (goodIn_of _ (by decide +kernel)) ggX3_bringAll_Jx4a65c_get_915e3
set_option maxRecDepth 20000 in
theorem ggX3_bringAll_X4_arrivesIn : GoodIn wsX3_bringAll wsX4_arrivesIn := goodIn_r _ [35, 36, 37, 76, 77, 78, 79, 80, 81, 82, 83] (by decide +kernel) (by decide +kernel)
set_option maxRecDepth 20000 in
theorem gX3_bringAll_X4_arrivesIn : GoodIn wsX3_bringAll (wsV RX3 79 RX4 yX4_arrivesIn wsX4_arrivesIn) := goodIn_app (goodIn_of _ (by decide +kernel)) ggX3_bringAll_X4_arrivesIn
set_option maxRecDepth 20000 in
theorem ggX3_bringAll_X3_bringShip : GoodIn wsX3_bringAll wsX3_bringShip := goodIn_r _ [42, 43, 44, 6, 7, 45, 46, 47, 48, 41, 49, 50, 8, 9, 10, 11, 12, 13, 14, 15, 16, 17, 18, 19, 20, 21, 22, 23, 24, 25, 26, 27, 28, 29, 30, 76, 77, 78, 79, 80, 81, 82, 83, 66, 67, 68, 69, 70, 71, 72, 84, 85, 86, 87, 88, 89, 90, 91, 92, 93, 94, 95, 73, 74, 75] (by decide +kernel) (by decide +kernel)
set_option maxRecDepth 20000 in
theorem gX3_bringAll_X3_bringShip : GoodIn wsX3_bringAll (wsV RX3 83 RX3 yX3_bringShip wsX3_bringShip) := goodIn_app (goodIn_of _ (by decide +kernel)) ggX3_bringAll_X3_bringShip
set_option maxRecDepth 20000 in
theorem ggX3_bringAll_X1_arriveIn : GoodIn wsX3_bringAll wsX1_arriveIn := goodIn_r _ [55, 56, 57, 58, 96, 97, 98] (by decide +kernel) (by decide +kernel)
set_option maxRecDepth 20000 in
theorem gX3_bringAll_X1_arriveIn : GoodIn wsX3_bringAll (wsV RX3 87 RX1 yX1_arriveIn wsX1_arriveIn) := goodIn_app (goodIn_of _ (by decide +kernel)) ggX3_bringAll_X1_arriveIn
set_option maxRecDepth 20000 in
theorem ggX3_bringAll_X0_endTurning : GoodIn wsX3_bringAll wsX0_endTurning := goodIn_r _ [63, 64, 65, 84, 85, 86, 87, 88, 89, 90, 91, 92, 93, 94, 95] (by decide +kernel) (by decide +kernel)
set_option maxRecDepth 20000 in
theorem gX3_bringAll_X0_endTurning : GoodIn wsX3_bringAll (wsV RX3 90 RX0 yX0_endTurning wsX0_endTurning) := goodIn_app (goodIn_of _ (by decide +kernel)) ggX3_bringAll_X0_endTurning
theorem dX3_bringAll_0 : decode cX3_bringAll 0 = .ok (.iconst 0, 1) := by decide +kernel
theorem dX3_bringAll_1 : decode cX3_bringAll 1 = .ok (.istore_n 1, 1) := by decide +kernel
theorem dX3_bringAll_2 : decode cX3_bringAll 2 = .ok (.iload_n 1, 1) := by decide +kernel
theorem dX3_bringAll_3 : decode cX3_bringAll 3 = .ok (.aload_n 0, 1) := by decide +kernel
theorem dX3_bringAll_4 : decode cX3_bringAll 4 = .ok (.getfield 25, 3) := by decide +kernel
theorem dX3_bringAll_7 : decode cX3_bringAll 7 = .ok (.invokevirtual 48, 3) := by decide +kernel
theorem dX3_bringAll_10 : decode cX3_bringAll 10 = .ok (.if_icmp .ge 37, 3) := by decide +kernel
theorem dX3_bringAll_13 : decode cX3_bringAll 13 = .ok (.aload_n 0, 1) := by decide +kernel
theorem dX3_bringAll_14 : decode cX3_bringAll 14 = .ok (.getfield 25, 3) := by decide +kernel
theorem dX3_bringAll_17 : decode cX3_bringAll 17 = .ok (.iload_n 1, 1) := by decide +kernel
theorem dX3_bringAll_18 : decode cX3_bringAll 18 = .ok (.invokevirtual 62, 3) := by decide +kernel
theorem dX3_bringAll_21 : decode cX3_bringAll 21 = .ok (.checkcast 77, 3) := by decide +kernel
theorem dX3_bringAll_24 : decode cX3_bringAll 24 = .ok (.astore_n 2, 1) := by decide +kernel
theorem dX3_bringAll_25 : decode cX3_bringAll 25 = .ok (.aload_n 2, 1) := by decide +kernel
theorem dX3_bringAll_26 : decode cX3_bringAll 26 = .ok (.aload_n 0, 1) := by decide +kernel
theorem dX3_bringAll_27 : decode cX3_bringAll 27 = .ok (.getfield 42, 3) := by decide +kernel
theorem dX3_bringAll_30 : decode cX3_bringAll 30 = .ok (.invokevirtual 79, 3) := by decide +kernel
theorem dX3_bringAll_33 : decode cX3_bringAll 33 = .ok (.ifCond .eq 8, 3) := by decide +kernel
theorem dX3_bringAll_36 : decode cX3_bringAll 36 = .ok (.aload_n 0, 1) := by decide +kernel
theorem dX3_bringAll_37 : decode cX3_bringAll 37 = .ok (.aload_n 2, 1) := by decide +kernel
theorem dX3_bringAll_38 : decode cX3_bringAll 38 = .ok (.invokevirtual 83, 3) := by decide +kernel
theorem dX3_bringAll_41 : decode cX3_bringAll 41 = .ok (.iinc 1 1, 3) := by decide +kernel
theorem dX3_bringAll_44 : decode cX3_bringAll 44 = .ok (.goto (-42), 3) := by decide +kernel
theorem dX3_bringAll_47 : decode cX3_bringAll 47 = .ok (.iconst 0, 1) := by decide +kernel
theorem dX3_bringAll_48 : decode cX3_bringAll 48 = .ok (.istore_n 1, 1) := by decide +kernel
theorem dX3_bringAll_49 : decode cX3_bringAll 49 = .ok (.iload_n 1, 1) := by decide +kernel
theorem dX3_bringAll_50 : decode cX3_bringAll 50 = .ok (.aload_n 0, 1) := by decide +kernel
theorem dX3_bringAll_51 : decode cX3_bringAll 51 = .ok (.getfield 28, 3) := by decide +kernel
theorem dX3_bringAll_54 : decode cX3_bringAll 54 = .ok (.invokevirtual 48, 3) := by decide +kernel
theorem dX3_bringAll_57 : decode cX3_bringAll 57 = .ok (.if_icmp .ge 27, 3) := by decide +kernel
theorem dX3_bringAll_60 : decode cX3_bringAll 60 = .ok (.aload_n 0, 1) := by decide +kernel
theorem dX3_bringAll_61 : decode cX3_bringAll 61 = .ok (.getfield 28, 3) := by decide +kernel
theorem dX3_bringAll_64 : decode cX3_bringAll 64 = .ok (.iload_n 1, 1) := by decide +kernel
theorem dX3_bringAll_65 : decode cX3_bringAll 65 = .ok (.invokevirtual 62, 3) := by decide +kernel
theorem dX3_bringAll_68 : decode cX3_bringAll 68 = .ok (.checkcast 66, 3) := by decide +kernel
theorem dX3_bringAll_71 : decode cX3_bringAll 71 = .ok (.aload_n 0, 1) := by decide +kernel
theorem dX3_bringAll_72 : decode cX3_bringAll 72 = .ok (.getfield 42, 3) := by decide +kernel
theorem dX3_bringAll_75 : decode cX3_bringAll 75 = .ok (.invokevirtual 87, 3) := by decide +kernel
theorem dX3_bringAll_78 : decode cX3_bringAll 78 = .ok (.iinc 1 1, 3) := by decide +kernel
theorem dX3_bringAll_81 : decode cX3_bringAll 81 = .ok (.goto (-32), 3) := by decide +kernel
theorem dX3_bringAll_84 : decode cX3_bringAll 84 = .ok (.iconst 0, 1) := by decide +kernel
theorem dX3_bringAll_85 : decode cX3_bringAll 85 = .ok (.istore_n 1, 1) := by decide +kernel
theorem dX3_bringAll_86 : decode cX3_bringAll 86 = .ok (.iload_n 1, 1) := by decide +kernel
theorem dX3_bringAll_87 : decode cX3_bringAll 87 = .ok (.aload_n 0, 1) := by decide +kernel
theorem dX3_bringAll_88 : decode cX3_bringAll 88 = .ok (.getfield 21, 3) := by decide +kernel
theorem dX3_bringAll_91 : decode cX3_bringAll 91 = .ok (.invokevirtual 48, 3) := by decide +kernel
theorem dX3_bringAll_94 : decode cX3_bringAll 94 = .ok (.if_icmp .ge 27, 3) := by decide +kernel
theorem dX3_bringAll_97 : decode cX3_bringAll 97 = .ok (.aload_n 0, 1) := by decide +kernel
theorem dX3_bringAll_98 : decode cX3_bringAll 98 = .ok (.getfield 21, 3) := by decide +kernel
theorem dX3_bringAll_101 : decode cX3_bringAll 101 = .ok (.iload_n 1, 1) := by decide +kernel
theorem dX3_bringAll_102 : decode cX3_bringAll 102 = .ok (.invokevirtual 62, 3) := by decide +kernel
theorem dX3_bringAll_105 : decode cX3_bringAll 105 = .ok (.checkcast 72, 3) := by decide +kernel
theorem dX3_bringAll_108 : decode cX3_bringAll 108 = .ok (.aload_n 0, 1) := by decide +kernel
theorem dX3_bringAll_109 : decode cX3_bringAll 109 = .ok (.getfield 42, 3) := by decide +kernel
theorem dX3_bringAll_112 : decode cX3_bringAll 112 = .ok (.invokevirtual 90, 3) := by decide +kernel
theorem dX3_bringAll_115 : decode cX3_bringAll 115 = .ok (.iinc 1 1, 3) := by decide +kernel
theorem dX3_bringAll_118 : decode cX3_bringAll 118 = .ok (.goto (-32), 3) := by decide +kernel
theorem dX3_bringAll_121 : decode cX3_bringAll 121 = .ok (.return_, 1) := by decide +kernel
set_option maxRecDepth 20000 in
theorem ggX3_bringShip_X3_whereOrWhereTo : GoodIn wsX3_bringShip wsX3_whereOrWhereTo := goodIn_r _ [10, 2, 11, 3, 1, 12, 13, 14, 15, 16, 17, 35, 36, 37, 38, 39, 40, 41, 42, 43, 44, 45, 46, 47, 48, 49, 62, 63, 64] (by decide +kernel) (by decide +kernel)
set_option maxRecDepth 20000 in
theorem gX3_bringShip_X3_whereOrWhereTo : GoodIn wsX3_bringShip (wsV RX3 93 RX3 yX3_whereOrWhereTo wsX3_whereOrWhereTo) := goodIn_app (goodIn_of _ (by decide +kernel)) ggX3_bringShip_X3_whereOrWhereTo
set_option maxRecDepth 20000 in
theorem ggX3_bringShip_Jx4a65c_get_915e3 : GoodIn wsX3_bringShip wsJx4a65c_get_915e3 := goodIn_r _ [21, 17, 22, 23, 24, 25, 26, 27, 28, 29, 30, 31, 32, 15, 33, 34, 62, 63, 64] (by decide +kernel) (by decide +kernel)
set_option maxRecDepth 20000 in
theorem gX3_bringShip_Jx4a65c_get_915e3 : GoodIn wsX3_bringShip (wsV RX3 62 RJx4a65c yJx4a65c_get_915e3 wsJx4a65c_get_915e3) := goodIn_app (goodIn_of _ (by decide +kernel)) ggX3_bringShip_Jx4a65c_get_915e3
theorem dX3_bringShip_0 : decode cX3_bringShip 0 = .ok (.aload_n 1, 1) := by decide +kernel
theorem dX3_bringShip_1 : decode cX3_bringShip 1 = .ok (.aload_n 0, 1) := by decide +kernel
theorem dX3_bringShip_2 : decode cX3_bringShip 2 = .ok (.aload_n 1, 1) := by decide +kernel
theorem dX3_bringShip_3 : decode cX3_bringShip 3 = .ok (.invokevirtual 93, 3) := by decide +kernel
theorem dX3_bringShip_6 : decode cX3_bringShip 6 = .ok (.putfield 97, 3) := by decide +kernel
theorem dX3_bringShip_9 : decode cX3_bringShip 9 = .ok (.aload_n 1, 1) := by decide +kernel
theorem dX3_bringShip_10 : decode cX3_bringShip 10 = .ok (.iconst 1, 1) := by decide +kernel
theorem dX3_bringShip_11 : decode cX3_bringShip 11 = .ok (.putfield 100, 3) := by decide +kernel
theorem dX3_bringShip_14 : decode cX3_bringShip 14 = .ok (.aload_n 0, 1) := by decide +kernel
theorem dX3_bringShip_15 : decode cX3_bringShip 15 = .ok (.getfield 21, 3) := by decide +kernel
theorem dX3_bringShip_18 : decode cX3_bringShip 18 = .ok (.aload_n 1, 1) := by decide +kernel
theorem dX3_bringShip_19 : decode cX3_bringShip 19 = .ok (.getfield 97, 3) := by decide +kernel
theorem dX3_bringShip_22 : decode cX3_bringShip 22 = .ok (.invokevirtual 62, 3) := by decide +kernel
theorem dX3_bringShip_25 : decode cX3_bringShip 25 = .ok (.checkcast 72, 3) := by decide +kernel
theorem dX3_bringShip_28 : decode cX3_bringShip 28 = .ok (.dup, 1) := by decide +kernel
theorem dX3_bringShip_29 : decode cX3_bringShip 29 = .ok (.getfield 103, 3) := by decide +kernel
theorem dX3_bringShip_32 : decode cX3_bringShip 32 = .ok (.iconst 1, 1) := by decide +kernel
theorem dX3_bringShip_33 : decode cX3_bringShip 33 = .ok (.iadd, 1) := by decide +kernel
theorem dX3_bringShip_34 : decode cX3_bringShip 34 = .ok (.putfield 103, 3) := by decide +kernel
theorem dX3_bringShip_37 : decode cX3_bringShip 37 = .ok (.return_, 1) := by decide +kernel
set_option maxRecDepth 20000 in
theorem ggX3_whereOrWhereTo_Jx4a65c_size_8abf5 : GoodIn wsX3_whereOrWhereTo wsJx4a65c_size_8abf5 := goodIn_r _ [9, 10, 26, 27, 28] (by decide +kernel) (by decide +kernel)
set_option maxRecDepth 20000 in
theorem gX3_whereOrWhereTo_Jx4a65c_size_8abf5 : GoodIn wsX3_whereOrWhereTo (wsV RX3 48 RJx4a65c yJx4a65c_size_8abf5 wsJx4a65c_size_8abf5) := goodIn_app (goodIn_of _ (by decide +kernel)) ggX3_whereOrWhereTo_Jx4a65c_size_8abf5
theorem dX3_whereOrWhereTo_0 : decode cX3_whereOrWhereTo 0 = .ok (.aload_n 1, 1) := by decide +kernel
theorem dX3_whereOrWhereTo_1 : decode cX3_whereOrWhereTo 1 = .ok (.getfield 100, 3) := by decide +kernel
theorem dX3_whereOrWhereTo_4 : decode cX3_whereOrWhereTo 4 = .ok (.ifCond .ne 24, 3) := by decide +kernel
theorem dX3_whereOrWhereTo_7 : decode cX3_whereOrWhereTo 7 = .ok (.aload_n 1, 1) := by decide +kernel
theorem dX3_whereOrWhereTo_8 : decode cX3_whereOrWhereTo 8 = .ok (.getfield 106, 3) := by decide +kernel
theorem dX3_whereOrWhereTo_11 : decode cX3_whereOrWhereTo 11 = .ok (.ifCond .eq 7, 3) := by decide +kernel
theorem dX3_whereOrWhereTo_14 : decode cX3_whereOrWhereTo 14 = .ok (.iconst 0, 1) := by decide +kernel
theorem dX3_whereOrWhereTo_15 : decode cX3_whereOrWhereTo 15 = .ok (.goto 12, 3) := by decide +kernel
theorem dX3_whereOrWhereTo_18 : decode cX3_whereOrWhereTo 18 = .ok (.aload_n 0, 1) := by decide +kernel
theorem dX3_whereOrWhereTo_19 : decode cX3_whereOrWhereTo 19 = .ok (.getfield 21, 3) := by decide +kernel
theorem dX3_whereOrWhereTo_22 : decode cX3_whereOrWhereTo 22 = .ok (.invokevirtual 48, 3) := by decide +kernel
theorem dX3_whereOrWhereTo_25 : decode cX3_whereOrWhereTo 25 = .ok (.iconst 1, 1) := by decide +kernel
theorem dX3_whereOrWhereTo_26 : decode cX3_whereOrWhereTo 26 = .ok (.isub, 1) := by decide +kernel
theorem dX3_whereOrWhereTo_27 : decode cX3_whereOrWhereTo 27 = .ok (.ireturn, 1) := by decide +kernel
theorem dX3_whereOrWhereTo_28 : decode cX3_whereOrWhereTo 28 = .ok (.aload_n 1, 1) := by decide +kernel
theorem dX3_whereOrWhereTo_29 : decode cX3_whereOrWhereTo 29 = .ok (.getfield 97, 3) := by decide +kernel
theorem dX3_whereOrWhereTo_32 : decode cX3_whereOrWhereTo 32 = .ok (.ireturn, 1) := by decide +kernel
set_option maxRecDepth 20000 in
theorem ggX3_letShipsThrough_Jx4a65c_get_915e3 : GoodIn wsX3_letShipsThrough wsJx4a65c_get_915e3 := goodIn_r _ [12, 13, 14, 15, 16, 17, 18, 19, 20, 21, 22, 23, 24, 11, 25, 26, 107, 108, 109] (by decide +kernel) (by decide +kernel)
set_option maxRecDepth 20000 in
theorem gX3_letShipsThrough_Jx4a65c_get_915e3 : GoodIn wsX3_letShipsThrough (wsV RX3 62 RJx4a65c yJx4a65c_get_915e3 wsJx4a65c_get_915e3) := goodIn_app (goodIn_of _ (by decide +kernel)) ggX3_letShipsThrough_Jx4a65c_get_915e3
set_option maxRecDepth 20000 in
theorem ggX3_letShipsThrough_X0_isWanted : GoodIn wsX3_letShipsThrough wsX0_isWanted := goodIn_r _ [31, 32, 95, 96, 97, 98, 99, 100, 101, 102, 103, 104, 105, 106] (by decide +kernel) (by decide +kernel)
set_option maxRecDepth 20000 in
theorem gX3_letShipsThrough_X0_isWanted : GoodIn wsX3_letShipsThrough (wsV RX3 110 RX0 yX0_isWanted wsX0_isWanted) := goodIn_app (goodIn_of _ (by decide +kernel)) ggX3_letShipsThrough_X0_isWanted
set_option maxRecDepth 20000 in
theorem ggX3_letShipsThrough_Jx4a65c_size_8abf5 : GoodIn wsX3_letShipsThrough wsJx4a65c_size_8abf5 := goodIn_r _ [36, 13, 107, 108, 109] (by decide +kernel) (by decide +kernel)
set_option maxRecDepth 20000 in
theorem gX3_letShipsThrough_Jx4a65c_size_8abf5 : GoodIn wsX3_letShipsThrough (wsV RX3 48 RJx4a65c yJx4a65c_size_8abf5 wsJx4a65c_size_8abf5) := goodIn_app (goodIn_of _ (by decide +kernel)) ggX3_letShipsThrough_Jx4a65c_size_8abf5
set_option maxRecDepth 20000 in
theorem ggX3_letShipsThrough_X4_isAt : GoodIn wsX3_letShipsThrough wsX4_isAt := goodIn_r _ [41, 42, 43, 87, 88, 89, 90, 91, 92, 93, 94] (by decide +kernel) (by decide +kernel)
set_option maxRecDepth 20000 in
theorem gX3_letShipsThrough_X4_isAt : GoodIn wsX3_letShipsThrough (wsV RX3 114 RX4 yX4_isAt wsX4_isAt) := goodIn_app (goodIn_of _ (by decide +kernel)) ggX3_letShipsThrough_X4_isAt
set_option maxRecDepth 20000 in
theorem ggX3_letShipsThrough_X3_comesUnder : GoodIn wsX3_letShipsThrough wsX3_comesUnder := goodIn_r _ [48, 49, 1, 2, 50, 51, 52, 53, 54, 55, 56, 8, 9, 10, 11, 12, 13, 14, 15, 16, 17, 18, 19, 20, 21, 22, 23, 24, 25, 26, 80, 81, 82, 83, 84, 85, 86, 95, 96, 97, 98, 99, 100, 101, 102, 103, 104, 105, 106, 110, 107, 108, 109] (by decide +kernel) (by decide +kernel)
set_option maxRecDepth 20000 in
theorem gX3_letShipsThrough_X3_comesUnder : GoodIn wsX3_letShipsThrough (wsV RX3 120 RX3 yX3_comesUnder wsX3_comesUnder) := goodIn_app (goodIn_of _ (by decide +kernel)) ggX3_letShipsThrough_X3_comesUnder
set_option maxRecDepth 20000 in
theorem ggX3_letShipsThrough_X3_sendThrough : GoodIn wsX3_letShipsThrough wsX3_sendThrough := goodIn_r _ [60, 1, 2, 61, 62, 6, 63, 64, 65, 66, 67, 68, 69, 70, 71, 72, 8, 9, 10, 11, 12, 13, 14, 15, 16, 17, 18, 19, 20, 21, 22, 23, 24, 25, 26, 33, 34, 35, 36, 73, 74, 75, 80, 81, 82, 83, 84, 85, 86, 95, 96, 97, 98, 99, 100, 101, 102, 103, 104, 105, 106, 87, 88, 89, 90, 91, 92, 93, 94, 107, 108, 109] (by decide +kernel) (by decide +kernel)
set_option maxRecDepth 20000 in
theorem gX3_letShipsThrough_X3_sendThrough : GoodIn wsX3_letShipsThrough (wsV RX3 124 RX3 yX3_sendThrough wsX3_sendThrough) := goodIn_app (goodIn_of _ (by decide +kernel)) ggX3_letShipsThrough_X3_sendThrough
set_option maxRecDepth 20000 in
theorem ggX3_letShipsThrough_X3_sendLongestThrough : GoodIn wsX3_letShipsThrough wsX3_sendLongestThrough := goodIn_r _ [79, 3, 4, 72, 33, 34, 35, 11, 36, 13, 8, 9, 10, 12, 14, 15, 16, 17, 18, 19, 20, 21, 22, 23, 24, 25, 26, 37, 38, 39, 40, 41, 42, 43, 57, 58, 59, 47, 60, 1, 2, 61, 62, 6, 63, 64, 65, 66, 67, 68, 69, 70, 71, 73, 74, 75, 80, 81, 82, 83, 84, 85, 86, 87, 88, 89, 90, 91, 92, 93, 94, 107, 108, 109, 95, 96, 97, 98, 99, 100, 101, 102, 103, 104, 105, 106] (by decide +kernel) (by decide +kernel)
set_option maxRecDepth 20000 in
theorem gX3_letShipsThrough_X3_sendLongestThrough : GoodIn wsX3_letShipsThrough (wsV RX3 129 RX3 yX3_sendLongestThrough wsX3_sendLongestThrough) := goodIn_app (goodIn_of _ (by decide +kernel)) ggX3_letShipsThrough_X3_sendLongestThrough
theorem dX3_letShipsThrough_0 : decode cX3_letShipsThrough 0 = .ok (.aload_n 0, 1) := by decide +kernel
theorem dX3_letShipsThrough_1 : decode cX3_letShipsThrough 1 = .ok (.getfield 21, 3) := by decide +kernel
theorem dX3_letShipsThrough_4 : decode cX3_letShipsThrough 4 = .ok (.iload_n 1, 1) := by decide +kernel
theorem dX3_letShipsThrough_5 : decode cX3_letShipsThrough 5 = .ok (.invokevirtual 62, 3) := by decide +kernel
theorem dX3_letShipsThrough_8 : decode cX3_letShipsThrough 8 = .ok (.checkcast 72, 3) := by decide +kernel
theorem dX3_letShipsThrough_11 : decode cX3_letShipsThrough 11 = .ok (.invokevirtual 110, 3) := by decide +kernel
theorem dX3_letShipsThrough_14 : decode cX3_letShipsThrough 14 = .ok (.ifCond .ne 4, 3) := by decide +kernel
theorem dX3_letShipsThrough_17 : decode cX3_letShipsThrough 17 = .ok (.return_, 1) := by decide +kernel
theorem dX3_letShipsThrough_18 : decode cX3_letShipsThrough 18 = .ok (.iconst 0, 1) := by decide +kernel
theorem dX3_letShipsThrough_19 : decode cX3_letShipsThrough 19 = .ok (.istore_n 2, 1) := by decide +kernel
theorem dX3_letShipsThrough_20 : decode cX3_letShipsThrough 20 = .ok (.iload_n 2, 1) := by decide +kernel
theorem dX3_letShipsThrough_21 : decode cX3_letShipsThrough 21 = .ok (.aload_n 0, 1) := by decide +kernel
theorem dX3_letShipsThrough_22 : decode cX3_letShipsThrough 22 = .ok (.getfield 25, 3) := by decide +kernel
theorem dX3_letShipsThrough_25 : decode cX3_letShipsThrough 25 = .ok (.invokevirtual 48, 3) := by decide +kernel
theorem dX3_letShipsThrough_28 : decode cX3_letShipsThrough 28 = .ok (.if_icmp .ge 51, 3) := by decide +kernel
theorem dX3_letShipsThrough_31 : decode cX3_letShipsThrough 31 = .ok (.aload_n 0, 1) := by decide +kernel
theorem dX3_letShipsThrough_32 : decode cX3_letShipsThrough 32 = .ok (.getfield 25, 3) := by decide +kernel
theorem dX3_letShipsThrough_35 : decode cX3_letShipsThrough 35 = .ok (.iload_n 2, 1) := by decide +kernel
theorem dX3_letShipsThrough_36 : decode cX3_letShipsThrough 36 = .ok (.invokevirtual 62, 3) := by decide +kernel
theorem dX3_letShipsThrough_39 : decode cX3_letShipsThrough 39 = .ok (.checkcast 77, 3) := by decide +kernel
theorem dX3_letShipsThrough_42 : decode cX3_letShipsThrough 42 = .ok (.astore_n 3, 1) := by decide +kernel
theorem dX3_letShipsThrough_43 : decode cX3_letShipsThrough 43 = .ok (.aload_n 3, 1) := by decide +kernel
theorem dX3_letShipsThrough_44 : decode cX3_letShipsThrough 44 = .ok (.iload_n 1, 1) := by decide +kernel
theorem dX3_letShipsThrough_45 : decode cX3_letShipsThrough 45 = .ok (.invokevirtual 114, 3) := by decide +kernel
theorem dX3_letShipsThrough_48 : decode cX3_letShipsThrough 48 = .ok (.ifCond .eq 25, 3) := by decide +kernel
theorem dX3_letShipsThrough_51 : decode cX3_letShipsThrough 51 = .ok (.aload_n 0, 1) := by decide +kernel
theorem dX3_letShipsThrough_52 : decode cX3_letShipsThrough 52 = .ok (.aload_n 3, 1) := by decide +kernel
theorem dX3_letShipsThrough_53 : decode cX3_letShipsThrough 53 = .ok (.getfield 117, 3) := by decide +kernel
theorem dX3_letShipsThrough_56 : decode cX3_letShipsThrough 56 = .ok (.iload_n 1, 1) := by decide +kernel
theorem dX3_letShipsThrough_57 : decode cX3_letShipsThrough 57 = .ok (.aload_n 0, 1) := by decide +kernel
theorem dX3_letShipsThrough_58 : decode cX3_letShipsThrough 58 = .ok (.getfield 42, 3) := by decide +kernel
theorem dX3_letShipsThrough_61 : decode cX3_letShipsThrough 61 = .ok (.invokevirtual 120, 3) := by decide +kernel
theorem dX3_letShipsThrough_64 : decode cX3_letShipsThrough 64 = .ok (.ifCond .eq 9, 3) := by decide +kernel
theorem dX3_letShipsThrough_67 : decode cX3_letShipsThrough 67 = .ok (.aload_n 0, 1) := by decide +kernel
theorem dX3_letShipsThrough_68 : decode cX3_letShipsThrough 68 = .ok (.aload_n 3, 1) := by decide +kernel
theorem dX3_letShipsThrough_69 : decode cX3_letShipsThrough 69 = .ok (.iload_n 1, 1) := by decide +kernel
theorem dX3_letShipsThrough_70 : decode cX3_letShipsThrough 70 = .ok (.invokevirtual 124, 3) := by decide +kernel
theorem dX3_letShipsThrough_73 : decode cX3_letShipsThrough 73 = .ok (.iinc 2 1, 3) := by decide +kernel
theorem dX3_letShipsThrough_76 : decode cX3_letShipsThrough 76 = .ok (.goto (-56), 3) := by decide +kernel
theorem dX3_letShipsThrough_79 : decode cX3_letShipsThrough 79 = .ok (.aload_n 0, 1) := by decide +kernel
theorem dX3_letShipsThrough_80 : decode cX3_letShipsThrough 80 = .ok (.getfield 21, 3) := by decide +kernel
theorem dX3_letShipsThrough_83 : decode cX3_letShipsThrough 83 = .ok (.iload_n 1, 1) := by decide +kernel
theorem dX3_letShipsThrough_84 : decode cX3_letShipsThrough 84 = .ok (.invokevirtual 62, 3) := by decide +kernel
theorem dX3_letShipsThrough_87 : decode cX3_letShipsThrough 87 = .ok (.checkcast 72, 3) := by decide +kernel
theorem dX3_letShipsThrough_90 : decode cX3_letShipsThrough 90 = .ok (.getfield 128, 3) := by decide +kernel
theorem dX3_letShipsThrough_93 : decode cX3_letShipsThrough 93 = .ok (.iconst 2, 1) := by decide +kernel
theorem dX3_letShipsThrough_94 : decode cX3_letShipsThrough 94 = .ok (.if_icmp .ne 25, 3) := by decide +kernel
theorem dX3_letShipsThrough_97 : decode cX3_letShipsThrough 97 = .ok (.aload_n 0, 1) := by decide +kernel
theorem dX3_letShipsThrough_98 : decode cX3_letShipsThrough 98 = .ok (.getfield 21, 3) := by decide +kernel
theorem dX3_letShipsThrough_101 : decode cX3_letShipsThrough 101 = .ok (.iload_n 1, 1) := by decide +kernel
theorem dX3_letShipsThrough_102 : decode cX3_letShipsThrough 102 = .ok (.invokevirtual 62, 3) := by decide +kernel
theorem dX3_letShipsThrough_105 : decode cX3_letShipsThrough 105 = .ok (.checkcast 72, 3) := by decide +kernel
theorem dX3_letShipsThrough_108 : decode cX3_letShipsThrough 108 = .ok (.invokevirtual 110, 3) := by decide +kernel
theorem dX3_letShipsThrough_111 : decode cX3_letShipsThrough 111 = .ok (.ifCond .eq 8, 3) := by decide +kernel
theorem dX3_letShipsThrough_114 : decode cX3_letShipsThrough 114 = .ok (.aload_n 0, 1) := by decide +kernel
theorem dX3_letShipsThrough_115 : decode cX3_letShipsThrough 115 = .ok (.iload_n 1, 1) := by decide +kernel
theorem dX3_letShipsThrough_116 : decode cX3_letShipsThrough 116 = .ok (.invokevirtual 129, 3) := by decide +kernel
theorem dX3_letShipsThrough_119 : decode cX3_letShipsThrough 119 = .ok (.return_, 1) := by decide +kernel
set_option maxRecDepth 20000 in
theorem ggX3_comesUnder_X6_levelIn : GoodIn wsX3_comesUnder wsX6_levelIn := goodIn_r _ [9, 10, 49] (by decide +kernel) (by decide +kernel)
set_option maxRecDepth 20000 in
theorem gX3_comesUnder_X6_levelIn : GoodIn wsX3_comesUnder (wsV RX3 132 RX6 yX6_levelIn wsX6_levelIn) := goodIn_app (goodIn_of _ (by decide +kernel)) ggX3_comesUnder_X6_levelIn
set_option maxRecDepth 20000 in
theorem ggX3_comesUnder_Jx4a65c_get_915e3 : GoodIn wsX3_comesUnder wsJx4a65c_get_915e3 := goodIn_r _ [15, 16, 17, 18, 19, 20, 21, 22, 23, 24, 25, 26, 27, 14, 28, 29, 50, 51, 52] (by decide +kernel) (by decide +kernel)
set_option maxRecDepth 20000 in
theorem gX3_comesUnder_Jx4a65c_get_915e3 : GoodIn wsX3_comesUnder (wsV RX3 62 RJx4a65c yJx4a65c_get_915e3 wsJx4a65c_get_915e3) := goodIn_app (goodIn_of _ (by decide +kernel)) ggX3_comesUnder_Jx4a65c_get_915e3
theorem dX3_comesUnder_0 : decode cX3_comesUnder 0 = .ok (.iload_n 1, 1) := by decide +kernel
theorem dX3_comesUnder_1 : decode cX3_comesUnder 1 = .ok (.aload_n 0, 1) := by decide +kernel
theorem dX3_comesUnder_2 : decode cX3_comesUnder 2 = .ok (.getfield 12, 3) := by decide +kernel
theorem dX3_comesUnder_5 : decode cX3_comesUnder 5 = .ok (.iload_n 3, 1) := by decide +kernel
theorem dX3_comesUnder_6 : decode cX3_comesUnder 6 = .ok (.invokevirtual 132, 3) := by decide +kernel
theorem dX3_comesUnder_9 : decode cX3_comesUnder 9 = .ok (.iadd, 1) := by decide +kernel
theorem dX3_comesUnder_10 : decode cX3_comesUnder 10 = .ok (.aload_n 0, 1) := by decide +kernel
theorem dX3_comesUnder_11 : decode cX3_comesUnder 11 = .ok (.getfield 21, 3) := by decide +kernel
theorem dX3_comesUnder_14 : decode cX3_comesUnder 14 = .ok (.iload_n 2, 1) := by decide +kernel
theorem dX3_comesUnder_15 : decode cX3_comesUnder 15 = .ok (.invokevirtual 62, 3) := by decide +kernel
theorem dX3_comesUnder_18 : decode cX3_comesUnder 18 = .ok (.checkcast 72, 3) := by decide +kernel
theorem dX3_comesUnder_21 : decode cX3_comesUnder 21 = .ok (.getfield 136, 3) := by decide +kernel
theorem dX3_comesUnder_24 : decode cX3_comesUnder 24 = .ok (.if_icmp .gt 7, 3) := by decide +kernel
theorem dX3_comesUnder_27 : decode cX3_comesUnder 27 = .ok (.iconst 1, 1) := by decide +kernel
theorem dX3_comesUnder_28 : decode cX3_comesUnder 28 = .ok (.goto 4, 3) := by decide +kernel
theorem dX3_comesUnder_31 : decode cX3_comesUnder 31 = .ok (.iconst 0, 1) := by decide +kernel
theorem dX3_comesUnder_32 : decode cX3_comesUnder 32 = .ok (.ireturn, 1) := by decide +kernel
set_option maxRecDepth 20000 in
theorem ggX3_sendLongestThrough_Jx4a65c_size_8abf5 : GoodIn wsX3_sendLongestThrough wsJx4a65c_size_8abf5 := goodIn_r _ [8, 9, 71, 72, 73] (by decide +kernel) (by decide +kernel)
set_option maxRecDepth 20000 in
theorem gX3_sendLongestThrough_Jx4a65c_size_8abf5 : GoodIn wsX3_sendLongestThrough (wsV RX3 48 RJx4a65c yJx4a65c_size_8abf5 wsJx4a65c_size_8abf5) := goodIn_app (goodIn_of _ (by decide +kernel)) ggX3_sendLongestThrough_Jx4a65c_size_8abf5
set_option maxRecDepth 20000 in
theorem ggX3_sendLongestThrough_Jx4a65c_get_915e3 : GoodIn wsX3_sendLongestThrough wsJx4a65c_get_915e3 := goodIn_r _ [13, 9, 14, 15, 16, 17, 18, 19, 20, 21, 22, 23, 24, 7, 25, 26, 71, 72, 73] (by decide +kernel) (by decide +kernel)
set_option maxRecDepth 20000 in
theorem gX3_sendLongestThrough_Jx4a65c_get_915e3 : GoodIn wsX3_sendLongestThrough (wsV RX3 62 RJx4a65c yJx4a65c_get_915e3 wsJx4a65c_get_915e3) := goodIn_app (goodIn_of _ (by decide +kernel)) ggX3_sendLongestThrough_Jx4a65c_get_915e3
set_option maxRecDepth 20000 in
theorem ggX3_sendLongestThrough_X4_isAt : GoodIn wsX3_sendLongestThrough wsX4_isAt := goodIn_r _ [31, 32, 33, 63, 64, 65, 66, 67, 68, 69, 70] (by decide +kernel) (by decide +kernel)
set_option maxRecDepth 20000 in
theorem gX3_sendLongestThrough_X4_isAt : GoodIn wsX3_sendLongestThrough (wsV RX3 114 RX4 yX4_isAt wsX4_isAt) := goodIn_app (goodIn_of _ (by decide +kernel)) ggX3_sendLongestThrough_X4_isAt
set_option maxRecDepth 20000 in
theorem ggX3_sendLongestThrough_X3_sendThrough : GoodIn wsX3_sendLongestThrough wsX3_sendThrough := goodIn_r _ [38, 39, 40, 41, 42, 43, 44, 45, 46, 47, 48, 49, 50, 51, 52, 3, 10, 11, 12, 7, 13, 9, 14, 15, 16, 17, 18, 19, 20, 21, 22, 23, 24, 25, 26, 4, 5, 6, 8, 53, 54, 55, 56, 57, 58, 59, 60, 61, 62, 74, 75, 76, 77, 78, 79, 80, 81, 82, 83, 84, 85, 63, 64, 65, 66, 67, 68, 69, 70, 71, 72, 73] (by decide +kernel) (by decide +kernel)
set_option maxRecDepth 20000 in
theorem gX3_sendLongestThrough_X3_sendThrough : GoodIn wsX3_sendLongestThrough (wsV RX3 124 RX3 yX3_sendThrough wsX3_sendThrough) := goodIn_app (goodIn_of _ (by decide +kernel)) ggX3_sendLongestThrough_X3_sendThrough
theorem dX3_sendLongestThrough_0 : decode cX3_sendLongestThrough 0 = .ok (.iconst (-1), 1) := by decide +kernel
theorem dX3_sendLongestThrough_1 : decode cX3_sendLongestThrough 1 = .ok (.istore_n 2, 1) := by decide +kernel
theorem dX3_sendLongestThrough_2 : decode cX3_sendLongestThrough 2 = .ok (.iconst 0, 1) := by decide +kernel
theorem dX3_sendLongestThrough_3 : decode cX3_sendLongestThrough 3 = .ok (.istore_n 3, 1) := by decide +kernel
theorem dX3_sendLongestThrough_4 : decode cX3_sendLongestThrough 4 = .ok (.iload_n 3, 1) := by decide +kernel
theorem dX3_sendLongestThrough_5 : decode cX3_sendLongestThrough 5 = .ok (.aload_n 0, 1) := by decide +kernel
theorem dX3_sendLongestThrough_6 : decode cX3_sendLongestThrough 6 = .ok (.getfield 25, 3) := by decide +kernel
theorem dX3_sendLongestThrough_9 : decode cX3_sendLongestThrough 9 = .ok (.invokevirtual 48, 3) := by decide +kernel
theorem dX3_sendLongestThrough_12 : decode cX3_sendLongestThrough 12 = .ok (.if_icmp .ge 65, 3) := by decide +kernel
theorem dX3_sendLongestThrough_15 : decode cX3_sendLongestThrough 15 = .ok (.aload_n 0, 1) := by decide +kernel
theorem dX3_sendLongestThrough_16 : decode cX3_sendLongestThrough 16 = .ok (.getfield 25, 3) := by decide +kernel
theorem dX3_sendLongestThrough_19 : decode cX3_sendLongestThrough 19 = .ok (.iload_n 3, 1) := by decide +kernel
theorem dX3_sendLongestThrough_20 : decode cX3_sendLongestThrough 20 = .ok (.invokevirtual 62, 3) := by decide +kernel
theorem dX3_sendLongestThrough_23 : decode cX3_sendLongestThrough 23 = .ok (.checkcast 77, 3) := by decide +kernel
theorem dX3_sendLongestThrough_26 : decode cX3_sendLongestThrough 26 = .ok (.iload_n 1, 1) := by decide +kernel
theorem dX3_sendLongestThrough_27 : decode cX3_sendLongestThrough 27 = .ok (.invokevirtual 114, 3) := by decide +kernel
theorem dX3_sendLongestThrough_30 : decode cX3_sendLongestThrough 30 = .ok (.ifCond .eq 41, 3) := by decide +kernel
theorem dX3_sendLongestThrough_33 : decode cX3_sendLongestThrough 33 = .ok (.iload_n 2, 1) := by decide +kernel
theorem dX3_sendLongestThrough_34 : decode cX3_sendLongestThrough 34 = .ok (.iconst (-1), 1) := by decide +kernel
theorem dX3_sendLongestThrough_35 : decode cX3_sendLongestThrough 35 = .ok (.if_icmp .eq 34, 3) := by decide +kernel
theorem dX3_sendLongestThrough_38 : decode cX3_sendLongestThrough 38 = .ok (.aload_n 0, 1) := by decide +kernel
theorem dX3_sendLongestThrough_39 : decode cX3_sendLongestThrough 39 = .ok (.getfield 25, 3) := by decide +kernel
theorem dX3_sendLongestThrough_42 : decode cX3_sendLongestThrough 42 = .ok (.iload_n 3, 1) := by decide +kernel
theorem dX3_sendLongestThrough_43 : decode cX3_sendLongestThrough 43 = .ok (.invokevirtual 62, 3) := by decide +kernel
theorem dX3_sendLongestThrough_46 : decode cX3_sendLongestThrough 46 = .ok (.checkcast 77, 3) := by decide +kernel
theorem dX3_sendLongestThrough_49 : decode cX3_sendLongestThrough 49 = .ok (.getfield 139, 3) := by decide +kernel
theorem dX3_sendLongestThrough_52 : decode cX3_sendLongestThrough 52 = .ok (.aload_n 0, 1) := by decide +kernel
theorem dX3_sendLongestThrough_53 : decode cX3_sendLongestThrough 53 = .ok (.getfield 25, 3) := by decide +kernel
theorem dX3_sendLongestThrough_56 : decode cX3_sendLongestThrough 56 = .ok (.iload_n 2, 1) := by decide +kernel
theorem dX3_sendLongestThrough_57 : decode cX3_sendLongestThrough 57 = .ok (.invokevirtual 62, 3) := by decide +kernel
theorem dX3_sendLongestThrough_60 : decode cX3_sendLongestThrough 60 = .ok (.checkcast 77, 3) := by decide +kernel
theorem dX3_sendLongestThrough_63 : decode cX3_sendLongestThrough 63 = .ok (.getfield 139, 3) := by decide +kernel
theorem dX3_sendLongestThrough_66 : decode cX3_sendLongestThrough 66 = .ok (.if_icmp .ge 5, 3) := by decide +kernel
theorem dX3_sendLongestThrough_69 : decode cX3_sendLongestThrough 69 = .ok (.iload_n 3, 1) := by decide +kernel
theorem dX3_sendLongestThrough_70 : decode cX3_sendLongestThrough 70 = .ok (.istore_n 2, 1) := by decide +kernel
theorem dX3_sendLongestThrough_71 : decode cX3_sendLongestThrough 71 = .ok (.iinc 3 1, 3) := by decide +kernel
theorem dX3_sendLongestThrough_74 : decode cX3_sendLongestThrough 74 = .ok (.goto (-70), 3) := by decide +kernel
theorem dX3_sendLongestThrough_77 : decode cX3_sendLongestThrough 77 = .ok (.iload_n 2, 1) := by decide +kernel
theorem dX3_sendLongestThrough_78 : decode cX3_sendLongestThrough 78 = .ok (.iconst (-1), 1) := by decide +kernel
theorem dX3_sendLongestThrough_79 : decode cX3_sendLongestThrough 79 = .ok (.if_icmp .eq 19, 3) := by decide +kernel
theorem dX3_sendLongestThrough_82 : decode cX3_sendLongestThrough 82 = .ok (.aload_n 0, 1) := by decide +kernel
theorem dX3_sendLongestThrough_83 : decode cX3_sendLongestThrough 83 = .ok (.aload_n 0, 1) := by decide +kernel
theorem dX3_sendLongestThrough_84 : decode cX3_sendLongestThrough 84 = .ok (.getfield 25, 3) := by decide +kernel
theorem dX3_sendLongestThrough_87 : decode cX3_sendLongestThrough 87 = .ok (.iload_n 2, 1) := by decide +kernel
theorem dX3_sendLongestThrough_88 : decode cX3_sendLongestThrough 88 = .ok (.invokevirtual 62, 3) := by decide +kernel
theorem dX3_sendLongestThrough_91 : decode cX3_sendLongestThrough 91 = .ok (.checkcast 77, 3) := by decide +kernel
theorem dX3_sendLongestThrough_94 : decode cX3_sendLongestThrough 94 = .ok (.iload_n 1, 1) := by decide +kernel
theorem dX3_sendLongestThrough_95 : decode cX3_sendLongestThrough 95 = .ok (.invokevirtual 124, 3) := by decide +kernel
theorem dX3_sendLongestThrough_98 : decode cX3_sendLongestThrough 98 = .ok (.return_, 1) := by decide +kernel
set_option maxRecDepth 20000 in
theorem ggX3_sendThrough_Jx4a65c_get_915e3 : GoodIn wsX3_sendThrough wsJx4a65c_get_915e3 := goodIn_r _ [20, 21, 22, 23, 24, 25, 26, 27, 28, 29, 30, 31, 32, 19, 33, 34, 69, 70, 71] (by decide +kernel) (by decide +kernel)
set_option maxRecDepth 20000 in
theorem gX3_sendThrough_Jx4a65c_get_915e3 : GoodIn wsX3_sendThrough (wsV RX3 62 RJx4a65c yJx4a65c_get_915e3 wsJx4a65c_get_915e3) := goodIn_app (goodIn_of _ (by decide +kernel)) ggX3_sendThrough_Jx4a65c_get_915e3
set_option maxRecDepth 20000 in
theorem ggX3_sendThrough_Jx4a65c_size_8abf5 : GoodIn wsX3_sendThrough wsJx4a65c_size_8abf5 := goodIn_r _ [38, 21, 69, 70, 71] (by decide +kernel) (by decide +kernel)
set_option maxRecDepth 20000 in
theorem gX3_sendThrough_Jx4a65c_size_8abf5 : GoodIn wsX3_sendThrough (wsV RX3 48 RJx4a65c yJx4a65c_size_8abf5 wsJx4a65c_size_8abf5) := goodIn_app (goodIn_of _ (by decide +kernel)) ggX3_sendThrough_Jx4a65c_size_8abf5
set_option maxRecDepth 20000 in
theorem ggX3_sendThrough_X8_isWithin : GoodIn wsX3_sendThrough wsX8_isWithin := goodIn_r _ [41] (by decide +kernel) (by decide +kernel)
set_option maxRecDepth 20000 in
theorem gX3_sendThrough_X8_isWithin_n146 : GoodIn wsX3_sendThrough (wsX8_isWithin) := ggX3_sendThrough_X8_isWithin
theorem dX3_sendThrough_0 : decode cX3_sendThrough 0 = .ok (.aload_n 0, 1) := by decide +kernel
theorem dX3_sendThrough_1 : decode cX3_sendThrough 1 = .ok (.getfield 21, 3) := by decide +kernel
theorem dX3_sendThrough_4 : decode cX3_sendThrough 4 = .ok (.iload_n 2, 1) := by decide +kernel
theorem dX3_sendThrough_5 : decode cX3_sendThrough 5 = .ok (.invokevirtual 62, 3) := by decide +kernel
theorem dX3_sendThrough_8 : decode cX3_sendThrough 8 = .ok (.checkcast 72, 3) := by decide +kernel
theorem dX3_sendThrough_11 : decode cX3_sendThrough 11 = .ok (.dup, 1) := by decide +kernel
theorem dX3_sendThrough_12 : decode cX3_sendThrough 12 = .ok (.getfield 103, 3) := by decide +kernel
theorem dX3_sendThrough_15 : decode cX3_sendThrough 15 = .ok (.iconst 1, 1) := by decide +kernel
theorem dX3_sendThrough_16 : decode cX3_sendThrough 16 = .ok (.isub, 1) := by decide +kernel
theorem dX3_sendThrough_17 : decode cX3_sendThrough 17 = .ok (.putfield 103, 3) := by decide +kernel
theorem dX3_sendThrough_20 : decode cX3_sendThrough 20 = .ok (.aload_n 1, 1) := by decide +kernel
theorem dX3_sendThrough_21 : decode cX3_sendThrough 21 = .ok (.getfield 142, 3) := by decide +kernel
theorem dX3_sendThrough_24 : decode cX3_sendThrough 24 = .ok (.iload_n 2, 1) := by decide +kernel
theorem dX3_sendThrough_25 : decode cX3_sendThrough 25 = .ok (.aload_n 0, 1) := by decide +kernel
theorem dX3_sendThrough_26 : decode cX3_sendThrough 26 = .ok (.getfield 42, 3) := by decide +kernel
theorem dX3_sendThrough_29 : decode cX3_sendThrough 29 = .ok (.iastore, 1) := by decide +kernel
theorem dX3_sendThrough_30 : decode cX3_sendThrough 30 = .ok (.aload_n 1, 1) := by decide +kernel
theorem dX3_sendThrough_31 : decode cX3_sendThrough 31 = .ok (.getfield 106, 3) := by decide +kernel
theorem dX3_sendThrough_34 : decode cX3_sendThrough 34 = .ok (.ifCond .eq 9, 3) := by decide +kernel
theorem dX3_sendThrough_37 : decode cX3_sendThrough 37 = .ok (.iload_n 2, 1) := by decide +kernel
theorem dX3_sendThrough_38 : decode cX3_sendThrough 38 = .ok (.iconst 1, 1) := by decide +kernel
theorem dX3_sendThrough_39 : decode cX3_sendThrough 39 = .ok (.iadd, 1) := by decide +kernel
theorem dX3_sendThrough_40 : decode cX3_sendThrough 40 = .ok (.goto 6, 3) := by decide +kernel
theorem dX3_sendThrough_43 : decode cX3_sendThrough 43 = .ok (.iload_n 2, 1) := by decide +kernel
theorem dX3_sendThrough_44 : decode cX3_sendThrough 44 = .ok (.iconst 1, 1) := by decide +kernel
theorem dX3_sendThrough_45 : decode cX3_sendThrough 45 = .ok (.isub, 1) := by decide +kernel
theorem dX3_sendThrough_46 : decode cX3_sendThrough 46 = .ok (.istore_n 3, 1) := by decide +kernel
theorem dX3_sendThrough_47 : decode cX3_sendThrough 47 = .ok (.iload_n 3, 1) := by decide +kernel
theorem dX3_sendThrough_48 : decode cX3_sendThrough 48 = .ok (.iconst 0, 1) := by decide +kernel
theorem dX3_sendThrough_49 : decode cX3_sendThrough 49 = .ok (.aload_n 0, 1) := by decide +kernel
theorem dX3_sendThrough_50 : decode cX3_sendThrough 50 = .ok (.getfield 21, 3) := by decide +kernel
theorem dX3_sendThrough_53 : decode cX3_sendThrough 53 = .ok (.invokevirtual 48, 3) := by decide +kernel
theorem dX3_sendThrough_56 : decode cX3_sendThrough 56 = .ok (.iconst 1, 1) := by decide +kernel
theorem dX3_sendThrough_57 : decode cX3_sendThrough 57 = .ok (.isub, 1) := by decide +kernel
theorem dX3_sendThrough_58 : decode cX3_sendThrough 58 = .ok (.invokestatic 146, 3) := by decide +kernel
theorem dX3_sendThrough_61 : decode cX3_sendThrough 61 = .ok (.ifCond .ne 22, 3) := by decide +kernel
theorem dX3_sendThrough_64 : decode cX3_sendThrough 64 = .ok (.aload_n 1, 1) := by decide +kernel
theorem dX3_sendThrough_65 : decode cX3_sendThrough 65 = .ok (.iconst 3, 1) := by decide +kernel
theorem dX3_sendThrough_66 : decode cX3_sendThrough 66 = .ok (.putfield 100, 3) := by decide +kernel
theorem dX3_sendThrough_69 : decode cX3_sendThrough 69 = .ok (.aload_n 1, 1) := by decide +kernel
theorem dX3_sendThrough_70 : decode cX3_sendThrough 70 = .ok (.iconst (-1), 1) := by decide +kernel
theorem dX3_sendThrough_71 : decode cX3_sendThrough 71 = .ok (.putfield 97, 3) := by decide +kernel
theorem dX3_sendThrough_74 : decode cX3_sendThrough 74 = .ok (.aload_n 1, 1) := by decide +kernel
theorem dX3_sendThrough_75 : decode cX3_sendThrough 75 = .ok (.aload_n 0, 1) := by decide +kernel
theorem dX3_sendThrough_76 : decode cX3_sendThrough 76 = .ok (.getfield 42, 3) := by decide +kernel
theorem dX3_sendThrough_79 : decode cX3_sendThrough 79 = .ok (.putfield 149, 3) := by decide +kernel
theorem dX3_sendThrough_82 : decode cX3_sendThrough 82 = .ok (.return_, 1) := by decide +kernel
theorem dX3_sendThrough_83 : decode cX3_sendThrough 83 = .ok (.aload_n 1, 1) := by decide +kernel
theorem dX3_sendThrough_84 : decode cX3_sendThrough 84 = .ok (.iconst 2, 1) := by decide +kernel
theorem dX3_sendThrough_85 : decode cX3_sendThrough 85 = .ok (.putfield 100, 3) := by decide +kernel
theorem dX3_sendThrough_88 : decode cX3_sendThrough 88 = .ok (.aload_n 1, 1) := by decide +kernel
theorem dX3_sendThrough_89 : decode cX3_sendThrough 89 = .ok (.iload_n 3, 1) := by decide +kernel
theorem dX3_sendThrough_90 : decode cX3_sendThrough 90 = .ok (.putfield 97, 3) := by decide +kernel
theorem dX3_sendThrough_93 : decode cX3_sendThrough 93 = .ok (.aload_n 1, 1) := by decide +kernel
theorem dX3_sendThrough_94 : decode cX3_sendThrough 94 = .ok (.aload_n 0, 1) := by decide +kernel
theorem dX3_sendThrough_95 : decode cX3_sendThrough 95 = .ok (.getfield 42, 3) := by decide +kernel
theorem dX3_sendThrough_98 : decode cX3_sendThrough 98 = .ok (.aload_n 0, 1) := by decide +kernel
theorem dX3_sendThrough_99 : decode cX3_sendThrough 99 = .ok (.getfield 21, 3) := by decide +kernel
theorem dX3_sendThrough_102 : decode cX3_sendThrough 102 = .ok (.iload_n 2, 1) := by decide +kernel
theorem dX3_sendThrough_103 : decode cX3_sendThrough 103 = .ok (.iload_n 3, 1) := by decide +kernel
theorem dX3_sendThrough_104 : decode cX3_sendThrough 104 = .ok (.invokestatic 152, 3) := by decide +kernel
theorem dX3_sendThrough_107 : decode cX3_sendThrough 107 = .ok (.invokevirtual 62, 3) := by decide +kernel
theorem dX3_sendThrough_110 : decode cX3_sendThrough 110 = .ok (.checkcast 72, 3) := by decide +kernel
theorem dX3_sendThrough_113 : decode cX3_sendThrough 113 = .ok (.getfield 158, 3) := by decide +kernel
theorem dX3_sendThrough_116 : decode cX3_sendThrough 116 = .ok (.iadd, 1) := by decide +kernel
theorem dX3_sendThrough_117 : decode cX3_sendThrough 117 = .ok (.putfield 139, 3) := by decide +kernel
theorem dX3_sendThrough_120 : decode cX3_sendThrough 120 = .ok (.return_, 1) := by decide +kernel
set_option maxRecDepth 20000 in
theorem ggX3_countWaits_Jx4a65c_size_8abf5 : GoodIn wsX3_countWaits wsJx4a65c_size_8abf5 := goodIn_r _ [9, 10, 43, 44, 45] (by decide +kernel) (by decide +kernel)
set_option maxRecDepth 20000 in
theorem gX3_countWaits_Jx4a65c_size_8abf5 : GoodIn wsX3_countWaits (wsV RX3 48 RJx4a65c yJx4a65c_size_8abf5 wsJx4a65c_size_8abf5) := goodIn_app (goodIn_of _ (by decide +kernel)) ggX3_countWaits_Jx4a65c_size_8abf5
set_option maxRecDepth 20000 in
theorem ggX3_countWaits_Jx4a65c_get_915e3 : GoodIn wsX3_countWaits wsJx4a65c_get_915e3 := goodIn_r _ [14, 10, 15, 16, 17, 18, 19, 20, 21, 22, 23, 24, 25, 8, 26, 27, 43, 44, 45] (by decide +kernel) (by decide +kernel)
set_option maxRecDepth 20000 in
theorem gX3_countWaits_Jx4a65c_get_915e3 : GoodIn wsX3_countWaits (wsV RX3 62 RJx4a65c yJx4a65c_get_915e3 wsJx4a65c_get_915e3) := goodIn_app (goodIn_of _ (by decide +kernel)) ggX3_countWaits_Jx4a65c_get_915e3
theorem dX3_countWaits_0 : decode cX3_countWaits 0 = .ok (.iconst 0, 1) := by decide +kernel
theorem dX3_countWaits_1 : decode cX3_countWaits 1 = .ok (.istore_n 1, 1) := by decide +kernel
theorem dX3_countWaits_2 : decode cX3_countWaits 2 = .ok (.iload_n 1, 1) := by decide +kernel
theorem dX3_countWaits_3 : decode cX3_countWaits 3 = .ok (.aload_n 0, 1) := by decide +kernel
theorem dX3_countWaits_4 : decode cX3_countWaits 4 = .ok (.getfield 25, 3) := by decide +kernel
theorem dX3_countWaits_7 : decode cX3_countWaits 7 = .ok (.invokevirtual 48, 3) := by decide +kernel
theorem dX3_countWaits_10 : decode cX3_countWaits 10 = .ok (.if_icmp .ge 39, 3) := by decide +kernel
theorem dX3_countWaits_13 : decode cX3_countWaits 13 = .ok (.aload_n 0, 1) := by decide +kernel
theorem dX3_countWaits_14 : decode cX3_countWaits 14 = .ok (.getfield 25, 3) := by decide +kernel
theorem dX3_countWaits_17 : decode cX3_countWaits 17 = .ok (.iload_n 1, 1) := by decide +kernel
theorem dX3_countWaits_18 : decode cX3_countWaits 18 = .ok (.invokevirtual 62, 3) := by decide +kernel
theorem dX3_countWaits_21 : decode cX3_countWaits 21 = .ok (.checkcast 77, 3) := by decide +kernel
theorem dX3_countWaits_24 : decode cX3_countWaits 24 = .ok (.astore_n 2, 1) := by decide +kernel
theorem dX3_countWaits_25 : decode cX3_countWaits 25 = .ok (.aload_n 2, 1) := by decide +kernel
theorem dX3_countWaits_26 : decode cX3_countWaits 26 = .ok (.getfield 100, 3) := by decide +kernel
theorem dX3_countWaits_29 : decode cX3_countWaits 29 = .ok (.iconst 1, 1) := by decide +kernel
theorem dX3_countWaits_30 : decode cX3_countWaits 30 = .ok (.if_icmp .ne 13, 3) := by decide +kernel
theorem dX3_countWaits_33 : decode cX3_countWaits 33 = .ok (.aload_n 2, 1) := by decide +kernel
theorem dX3_countWaits_34 : decode cX3_countWaits 34 = .ok (.dup, 1) := by decide +kernel
theorem dX3_countWaits_35 : decode cX3_countWaits 35 = .ok (.getfield 161, 3) := by decide +kernel
theorem dX3_countWaits_38 : decode cX3_countWaits 38 = .ok (.iconst 1, 1) := by decide +kernel
theorem dX3_countWaits_39 : decode cX3_countWaits 39 = .ok (.iadd, 1) := by decide +kernel
theorem dX3_countWaits_40 : decode cX3_countWaits 40 = .ok (.putfield 161, 3) := by decide +kernel
theorem dX3_countWaits_43 : decode cX3_countWaits 43 = .ok (.iinc 1 1, 3) := by decide +kernel
theorem dX3_countWaits_46 : decode cX3_countWaits 46 = .ok (.goto (-44), 3) := by decide +kernel
theorem dX3_countWaits_49 : decode cX3_countWaits 49 = .ok (.return_, 1) := by decide +kernel
set_option maxRecDepth 20000 in
theorem ggX3_turnBridge_Jx4a65c_get_915e3 : GoodIn wsX3_turnBridge wsJx4a65c_get_915e3 := goodIn_r _ [12, 13, 14, 15, 16, 17, 18, 19, 20, 21, 22, 23, 24, 11, 25, 26, 85, 86, 87] (by decide +kernel) (by decide +kernel)
set_option maxRecDepth 20000 in
theorem gX3_turnBridge_Jx4a65c_get_915e3 : GoodIn wsX3_turnBridge (wsV RX3 62 RJx4a65c yJx4a65c_get_915e3 wsJx4a65c_get_915e3) := goodIn_app (goodIn_of _ (by decide +kernel)) ggX3_turnBridge_Jx4a65c_get_915e3
set_option maxRecDepth 20000 in
theorem ggX3_turnBridge_X0_isWanted : GoodIn wsX3_turnBridge wsX0_isWanted := goodIn_r _ [31, 32, 73, 74, 75, 76, 77, 78, 79, 80, 81, 82, 83, 84] (by decide +kernel) (by decide +kernel)
set_option maxRecDepth 20000 in
theorem gX3_turnBridge_X0_isWanted : GoodIn wsX3_turnBridge (wsV RX3 110 RX0 yX0_isWanted wsX0_isWanted) := goodIn_app (goodIn_of _ (by decide +kernel)) ggX3_turnBridge_X0_isWanted
set_option maxRecDepth 20000 in
theorem ggX3_turnBridge_X7_touches : GoodIn wsX3_turnBridge wsX7_touches := goodIn_r _ [37, 38, 39, 40, 88, 89, 90, 91, 92] (by decide +kernel) (by decide +kernel)
set_option maxRecDepth 20000 in
theorem gX3_turnBridge_X7_touches : GoodIn wsX3_turnBridge (wsV RX3 167 RX7 yX7_touches wsX7_touches) := goodIn_app (goodIn_of _ (by decide +kernel)) ggX3_turnBridge_X7_touches
set_option maxRecDepth 20000 in
theorem ggX3_turnBridge_X0_startShutting : GoodIn wsX3_turnBridge wsX0_startShutting := goodIn_r _ [44, 45, 46, 47, 73, 74, 75, 76, 77, 78, 79, 80, 81, 82, 83, 84] (by decide +kernel) (by decide +kernel)
set_option maxRecDepth 20000 in
theorem gX3_turnBridge_X0_startShutting : GoodIn wsX3_turnBridge (wsV RX3 170 RX0 yX0_startShutting wsX0_startShutting) := goodIn_app (goodIn_of _ (by decide +kernel)) ggX3_turnBridge_X0_startShutting
set_option maxRecDepth 20000 in
theorem ggX3_turnBridge_X3_hasKeeper : GoodIn wsX3_turnBridge wsX3_hasKeeper := goodIn_r _ [52, 53, 54, 55, 56, 57, 58, 11, 59, 13, 8, 9, 10, 12, 14, 15, 16, 17, 18, 19, 20, 21, 22, 23, 24, 25, 26, 66, 67, 68, 69, 70, 71, 72, 93, 94, 95, 85, 86, 87] (by decide +kernel) (by decide +kernel)
set_option maxRecDepth 20000 in
theorem gX3_turnBridge_X3_hasKeeper : GoodIn wsX3_turnBridge (wsV RX3 173 RX3 yX3_hasKeeper wsX3_hasKeeper) := goodIn_app (goodIn_of _ (by decide +kernel)) ggX3_turnBridge_X3_hasKeeper
set_option maxRecDepth 20000 in
theorem ggX3_turnBridge_X0_startOpening : GoodIn wsX3_turnBridge wsX0_startOpening := goodIn_r _ [63, 45, 64, 47, 65, 73, 74, 75, 76, 77, 78, 79, 80, 81, 82, 83, 84] (by decide +kernel) (by decide +kernel)
set_option maxRecDepth 20000 in
theorem gX3_turnBridge_X0_startOpening : GoodIn wsX3_turnBridge (wsV RX3 179 RX0 yX0_startOpening wsX0_startOpening) := goodIn_app (goodIn_of _ (by decide +kernel)) ggX3_turnBridge_X0_startOpening
theorem dX3_turnBridge_0 : decode cX3_turnBridge 0 = .ok (.aload_n 0, 1) := by decide +kernel
theorem dX3_turnBridge_1 : decode cX3_turnBridge 1 = .ok (.getfield 21, 3) := by decide +kernel
theorem dX3_turnBridge_4 : decode cX3_turnBridge 4 = .ok (.iload_n 1, 1) := by decide +kernel
theorem dX3_turnBridge_5 : decode cX3_turnBridge 5 = .ok (.invokevirtual 62, 3) := by decide +kernel
theorem dX3_turnBridge_8 : decode cX3_turnBridge 8 = .ok (.checkcast 72, 3) := by decide +kernel
theorem dX3_turnBridge_11 : decode cX3_turnBridge 11 = .ok (.astore_n 2, 1) := by decide +kernel
theorem dX3_turnBridge_12 : decode cX3_turnBridge 12 = .ok (.aload_n 2, 1) := by decide +kernel
theorem dX3_turnBridge_13 : decode cX3_turnBridge 13 = .ok (.getfield 128, 3) := by decide +kernel
theorem dX3_turnBridge_16 : decode cX3_turnBridge 16 = .ok (.iconst 2, 1) := by decide +kernel
theorem dX3_turnBridge_17 : decode cX3_turnBridge 17 = .ok (.if_icmp .ne 45, 3) := by decide +kernel
theorem dX3_turnBridge_20 : decode cX3_turnBridge 20 = .ok (.aload_n 2, 1) := by decide +kernel
theorem dX3_turnBridge_21 : decode cX3_turnBridge 21 = .ok (.invokevirtual 110, 3) := by decide +kernel
theorem dX3_turnBridge_24 : decode cX3_turnBridge 24 = .ok (.ifCond .eq 29, 3) := by decide +kernel
theorem dX3_turnBridge_27 : decode cX3_turnBridge 27 = .ok (.aload_n 0, 1) := by decide +kernel
theorem dX3_turnBridge_28 : decode cX3_turnBridge 28 = .ok (.getfield 34, 3) := by decide +kernel
theorem dX3_turnBridge_31 : decode cX3_turnBridge 31 = .ok (.iload_n 1, 1) := by decide +kernel
theorem dX3_turnBridge_32 : decode cX3_turnBridge 32 = .ok (.aload_n 0, 1) := by decide +kernel
theorem dX3_turnBridge_33 : decode cX3_turnBridge 33 = .ok (.getfield 42, 3) := by decide +kernel
theorem dX3_turnBridge_36 : decode cX3_turnBridge 36 = .ok (.iconst 1, 1) := by decide +kernel
theorem dX3_turnBridge_37 : decode cX3_turnBridge 37 = .ok (.iadd, 1) := by decide +kernel
theorem dX3_turnBridge_38 : decode cX3_turnBridge 38 = .ok (.aload_n 0, 1) := by decide +kernel
theorem dX3_turnBridge_39 : decode cX3_turnBridge 39 = .ok (.getfield 42, 3) := by decide +kernel
theorem dX3_turnBridge_42 : decode cX3_turnBridge 42 = .ok (.aload_n 2, 1) := by decide +kernel
theorem dX3_turnBridge_43 : decode cX3_turnBridge 43 = .ok (.getfield 164, 3) := by decide +kernel
theorem dX3_turnBridge_46 : decode cX3_turnBridge 46 = .ok (.iadd, 1) := by decide +kernel
theorem dX3_turnBridge_47 : decode cX3_turnBridge 47 = .ok (.invokevirtual 167, 3) := by decide +kernel
theorem dX3_turnBridge_50 : decode cX3_turnBridge 50 = .ok (.ifCond .eq 11, 3) := by decide +kernel
theorem dX3_turnBridge_53 : decode cX3_turnBridge 53 = .ok (.aload_n 2, 1) := by decide +kernel
theorem dX3_turnBridge_54 : decode cX3_turnBridge 54 = .ok (.aload_n 0, 1) := by decide +kernel
theorem dX3_turnBridge_55 : decode cX3_turnBridge 55 = .ok (.getfield 42, 3) := by decide +kernel
theorem dX3_turnBridge_58 : decode cX3_turnBridge 58 = .ok (.invokevirtual 170, 3) := by decide +kernel
theorem dX3_turnBridge_61 : decode cX3_turnBridge 61 = .ok (.return_, 1) := by decide +kernel
theorem dX3_turnBridge_62 : decode cX3_turnBridge 62 = .ok (.aload_n 2, 1) := by decide +kernel
theorem dX3_turnBridge_63 : decode cX3_turnBridge 63 = .ok (.getfield 128, 3) := by decide +kernel
theorem dX3_turnBridge_66 : decode cX3_turnBridge 66 = .ok (.ifCond .ne 55, 3) := by decide +kernel
theorem dX3_turnBridge_69 : decode cX3_turnBridge 69 = .ok (.aload_n 2, 1) := by decide +kernel
theorem dX3_turnBridge_70 : decode cX3_turnBridge 70 = .ok (.invokevirtual 110, 3) := by decide +kernel
theorem dX3_turnBridge_73 : decode cX3_turnBridge 73 = .ok (.ifCond .eq 48, 3) := by decide +kernel
theorem dX3_turnBridge_76 : decode cX3_turnBridge 76 = .ok (.aload_n 0, 1) := by decide +kernel
theorem dX3_turnBridge_77 : decode cX3_turnBridge 77 = .ok (.iload_n 1, 1) := by decide +kernel
theorem dX3_turnBridge_78 : decode cX3_turnBridge 78 = .ok (.invokevirtual 173, 3) := by decide +kernel
theorem dX3_turnBridge_81 : decode cX3_turnBridge 81 = .ok (.ifCond .eq 40, 3) := by decide +kernel
theorem dX3_turnBridge_84 : decode cX3_turnBridge 84 = .ok (.aload_n 0, 1) := by decide +kernel
theorem dX3_turnBridge_85 : decode cX3_turnBridge 85 = .ok (.getfield 34, 3) := by decide +kernel
theorem dX3_turnBridge_88 : decode cX3_turnBridge 88 = .ok (.iload_n 1, 1) := by decide +kernel
theorem dX3_turnBridge_89 : decode cX3_turnBridge 89 = .ok (.aload_n 0, 1) := by decide +kernel
theorem dX3_turnBridge_90 : decode cX3_turnBridge 90 = .ok (.getfield 42, 3) := by decide +kernel
theorem dX3_turnBridge_93 : decode cX3_turnBridge 93 = .ok (.aload_n 0, 1) := by decide +kernel
theorem dX3_turnBridge_94 : decode cX3_turnBridge 94 = .ok (.getfield 42, 3) := by decide +kernel
theorem dX3_turnBridge_97 : decode cX3_turnBridge 97 = .ok (.aload_n 2, 1) := by decide +kernel
theorem dX3_turnBridge_98 : decode cX3_turnBridge 98 = .ok (.getfield 176, 3) := by decide +kernel
theorem dX3_turnBridge_101 : decode cX3_turnBridge 101 = .ok (.iadd, 1) := by decide +kernel
theorem dX3_turnBridge_102 : decode cX3_turnBridge 102 = .ok (.aload_n 2, 1) := by decide +kernel
theorem dX3_turnBridge_103 : decode cX3_turnBridge 103 = .ok (.getfield 164, 3) := by decide +kernel
theorem dX3_turnBridge_106 : decode cX3_turnBridge 106 = .ok (.iadd, 1) := by decide +kernel
theorem dX3_turnBridge_107 : decode cX3_turnBridge 107 = .ok (.invokevirtual 167, 3) := by decide +kernel
theorem dX3_turnBridge_110 : decode cX3_turnBridge 110 = .ok (.ifCond .ne 11, 3) := by decide +kernel
theorem dX3_turnBridge_113 : decode cX3_turnBridge 113 = .ok (.aload_n 2, 1) := by decide +kernel
theorem dX3_turnBridge_114 : decode cX3_turnBridge 114 = .ok (.aload_n 0, 1) := by decide +kernel
theorem dX3_turnBridge_115 : decode cX3_turnBridge 115 = .ok (.getfield 42, 3) := by decide +kernel
theorem dX3_turnBridge_118 : decode cX3_turnBridge 118 = .ok (.invokevirtual 179, 3) := by decide +kernel
theorem dX3_turnBridge_121 : decode cX3_turnBridge 121 = .ok (.return_, 1) := by decide +kernel
set_option maxRecDepth 20000 in
theorem ggX3_hasKeeper_Jx4a65c_size_8abf5 : GoodIn wsX3_hasKeeper wsJx4a65c_size_8abf5 := goodIn_r _ [8, 9, 37, 38, 39] (by decide +kernel) (by decide +kernel)
set_option maxRecDepth 20000 in
theorem gX3_hasKeeper_Jx4a65c_size_8abf5 : GoodIn wsX3_hasKeeper (wsV RX3 48 RJx4a65c yJx4a65c_size_8abf5 wsJx4a65c_size_8abf5) := goodIn_app (goodIn_of _ (by decide +kernel)) ggX3_hasKeeper_Jx4a65c_size_8abf5
set_option maxRecDepth 20000 in
theorem ggX3_hasKeeper_Jx4a65c_get_915e3 : GoodIn wsX3_hasKeeper wsJx4a65c_get_915e3 := goodIn_r _ [13, 9, 14, 15, 16, 17, 18, 19, 20, 21, 22, 23, 24, 7, 25, 26, 37, 38, 39] (by decide +kernel) (by decide +kernel)
set_option maxRecDepth 20000 in
theorem gX3_hasKeeper_Jx4a65c_get_915e3 : GoodIn wsX3_hasKeeper (wsV RX3 62 RJx4a65c yJx4a65c_get_915e3 wsJx4a65c_get_915e3) := goodIn_app (goodIn_of _ (by decide +kernel)) ggX3_hasKeeper_Jx4a65c_get_915e3
theorem dX3_hasKeeper_0 : decode cX3_hasKeeper 0 = .ok (.iconst 0, 1) := by decide +kernel
theorem dX3_hasKeeper_1 : decode cX3_hasKeeper 1 = .ok (.istore_n 2, 1) := by decide +kernel
theorem dX3_hasKeeper_2 : decode cX3_hasKeeper 2 = .ok (.iload_n 2, 1) := by decide +kernel
theorem dX3_hasKeeper_3 : decode cX3_hasKeeper 3 = .ok (.aload_n 0, 1) := by decide +kernel
theorem dX3_hasKeeper_4 : decode cX3_hasKeeper 4 = .ok (.getfield 28, 3) := by decide +kernel
theorem dX3_hasKeeper_7 : decode cX3_hasKeeper 7 = .ok (.invokevirtual 48, 3) := by decide +kernel
theorem dX3_hasKeeper_10 : decode cX3_hasKeeper 10 = .ok (.if_icmp .ge 29, 3) := by decide +kernel
theorem dX3_hasKeeper_13 : decode cX3_hasKeeper 13 = .ok (.aload_n 0, 1) := by decide +kernel
theorem dX3_hasKeeper_14 : decode cX3_hasKeeper 14 = .ok (.getfield 28, 3) := by decide +kernel
theorem dX3_hasKeeper_17 : decode cX3_hasKeeper 17 = .ok (.iload_n 2, 1) := by decide +kernel
theorem dX3_hasKeeper_18 : decode cX3_hasKeeper 18 = .ok (.invokevirtual 62, 3) := by decide +kernel
theorem dX3_hasKeeper_21 : decode cX3_hasKeeper 21 = .ok (.checkcast 66, 3) := by decide +kernel
theorem dX3_hasKeeper_24 : decode cX3_hasKeeper 24 = .ok (.getfield 182, 3) := by decide +kernel
theorem dX3_hasKeeper_27 : decode cX3_hasKeeper 27 = .ok (.iload_n 1, 1) := by decide +kernel
theorem dX3_hasKeeper_28 : decode cX3_hasKeeper 28 = .ok (.if_icmp .ne 5, 3) := by decide +kernel
theorem dX3_hasKeeper_31 : decode cX3_hasKeeper 31 = .ok (.iconst 1, 1) := by decide +kernel
theorem dX3_hasKeeper_32 : decode cX3_hasKeeper 32 = .ok (.ireturn, 1) := by decide +kernel
theorem dX3_hasKeeper_33 : decode cX3_hasKeeper 33 = .ok (.iinc 2 1, 3) := by decide +kernel
theorem dX3_hasKeeper_36 : decode cX3_hasKeeper 36 = .ok (.goto (-34), 3) := by decide +kernel
theorem dX3_hasKeeper_39 : decode cX3_hasKeeper 39 = .ok (.iconst 0, 1) := by decide +kernel
theorem dX3_hasKeeper_40 : decode cX3_hasKeeper 40 = .ok (.ireturn, 1) := by decide +kernel
set_option maxRecDepth 20000 in
theorem ggX3_sendKeeper_Jx4a65c_get_915e3 : GoodIn wsX3_sendKeeper wsJx4a65c_get_915e3 := goodIn_r _ [15, 16, 17, 18, 19, 20, 21, 22, 23, 24, 25, 26, 27, 14, 28, 29, 81, 82, 83] (by decide +kernel) (by decide +kernel)
set_option maxRecDepth 20000 in
theorem gX3_sendKeeper_Jx4a65c_get_915e3 : GoodIn wsX3_sendKeeper (wsV RX3 62 RJx4a65c yJx4a65c_get_915e3 wsJx4a65c_get_915e3) := goodIn_app (goodIn_of _ (by decide +kernel)) ggX3_sendKeeper_Jx4a65c_get_915e3
set_option maxRecDepth 20000 in
theorem ggX3_sendKeeper_X0_isWanted : GoodIn wsX3_sendKeeper wsX0_isWanted := goodIn_r _ [34, 35, 69, 70, 71, 72, 73, 74, 75, 76, 77, 78, 79, 80] (by decide +kernel) (by decide +kernel)
set_option maxRecDepth 20000 in
theorem gX3_sendKeeper_X0_isWanted : GoodIn wsX3_sendKeeper (wsV RX3 110 RX0 yX0_isWanted wsX0_isWanted) := goodIn_app (goodIn_of _ (by decide +kernel)) ggX3_sendKeeper_X0_isWanted
set_option maxRecDepth 20000 in
theorem ggX3_sendKeeper_Jx4a65c_size_8abf5 : GoodIn wsX3_sendKeeper wsJx4a65c_size_8abf5 := goodIn_r _ [39, 16, 81, 82, 83] (by decide +kernel) (by decide +kernel)
set_option maxRecDepth 20000 in
theorem gX3_sendKeeper_Jx4a65c_size_8abf5 : GoodIn wsX3_sendKeeper (wsV RX3 48 RJx4a65c yJx4a65c_size_8abf5 wsJx4a65c_size_8abf5) := goodIn_app (goodIn_of _ (by decide +kernel)) ggX3_sendKeeper_Jx4a65c_size_8abf5
set_option maxRecDepth 20000 in
theorem ggX3_sendKeeper_X3_isKept : GoodIn wsX3_sendKeeper wsX3_isKept := goodIn_r _ [44, 45, 46, 36, 37, 38, 14, 39, 16, 11, 12, 13, 15, 17, 18, 19, 20, 21, 22, 23, 24, 25, 26, 27, 28, 29, 47, 48, 49, 50, 51, 52, 53, 62, 63, 64, 65, 66, 67, 68, 81, 82, 83, 59, 60, 61] (by decide +kernel) (by decide +kernel)
set_option maxRecDepth 20000 in
theorem gX3_sendKeeper_X3_isKept : GoodIn wsX3_sendKeeper (wsV RX3 188 RX3 yX3_isKept wsX3_isKept) := goodIn_app (goodIn_of _ (by decide +kernel)) ggX3_sendKeeper_X3_isKept
set_option maxRecDepth 20000 in
theorem ggX3_sendKeeper_X1_setOut : GoodIn wsX3_sendKeeper wsX1_setOut := goodIn_r _ [57, 52, 53, 58, 59, 60, 61] (by decide +kernel) (by decide +kernel)
set_option maxRecDepth 20000 in
theorem gX3_sendKeeper_X1_setOut : GoodIn wsX3_sendKeeper (wsV RX3 191 RX1 yX1_setOut wsX1_setOut) := goodIn_app (goodIn_of _ (by decide +kernel)) ggX3_sendKeeper_X1_setOut
theorem dX3_sendKeeper_0 : decode cX3_sendKeeper 0 = .ok (.aload_n 1, 1) := by decide +kernel
theorem dX3_sendKeeper_1 : decode cX3_sendKeeper 1 = .ok (.getfield 182, 3) := by decide +kernel
theorem dX3_sendKeeper_4 : decode cX3_sendKeeper 4 = .ok (.istore_n 2, 1) := by decide +kernel
theorem dX3_sendKeeper_5 : decode cX3_sendKeeper 5 = .ok (.iload_n 2, 1) := by decide +kernel
theorem dX3_sendKeeper_6 : decode cX3_sendKeeper 6 = .ok (.iconst (-1), 1) := by decide +kernel
theorem dX3_sendKeeper_7 : decode cX3_sendKeeper 7 = .ok (.if_icmp .eq 37, 3) := by decide +kernel
theorem dX3_sendKeeper_10 : decode cX3_sendKeeper 10 = .ok (.aload_n 0, 1) := by decide +kernel
theorem dX3_sendKeeper_11 : decode cX3_sendKeeper 11 = .ok (.getfield 21, 3) := by decide +kernel
theorem dX3_sendKeeper_14 : decode cX3_sendKeeper 14 = .ok (.iload_n 2, 1) := by decide +kernel
theorem dX3_sendKeeper_15 : decode cX3_sendKeeper 15 = .ok (.invokevirtual 62, 3) := by decide +kernel
theorem dX3_sendKeeper_18 : decode cX3_sendKeeper 18 = .ok (.checkcast 72, 3) := by decide +kernel
theorem dX3_sendKeeper_21 : decode cX3_sendKeeper 21 = .ok (.getfield 128, 3) := by decide +kernel
theorem dX3_sendKeeper_24 : decode cX3_sendKeeper 24 = .ok (.ifCond .ne 20, 3) := by decide +kernel
theorem dX3_sendKeeper_27 : decode cX3_sendKeeper 27 = .ok (.aload_n 0, 1) := by decide +kernel
theorem dX3_sendKeeper_28 : decode cX3_sendKeeper 28 = .ok (.getfield 21, 3) := by decide +kernel
theorem dX3_sendKeeper_31 : decode cX3_sendKeeper 31 = .ok (.iload_n 2, 1) := by decide +kernel
theorem dX3_sendKeeper_32 : decode cX3_sendKeeper 32 = .ok (.invokevirtual 62, 3) := by decide +kernel
theorem dX3_sendKeeper_35 : decode cX3_sendKeeper 35 = .ok (.checkcast 72, 3) := by decide +kernel
theorem dX3_sendKeeper_38 : decode cX3_sendKeeper 38 = .ok (.invokevirtual 110, 3) := by decide +kernel
theorem dX3_sendKeeper_41 : decode cX3_sendKeeper 41 = .ok (.ifCond .eq 4, 3) := by decide +kernel
theorem dX3_sendKeeper_44 : decode cX3_sendKeeper 44 = .ok (.return_, 1) := by decide +kernel
theorem dX3_sendKeeper_45 : decode cX3_sendKeeper 45 = .ok (.iconst (-1), 1) := by decide +kernel
theorem dX3_sendKeeper_46 : decode cX3_sendKeeper 46 = .ok (.istore_n 3, 1) := by decide +kernel
theorem dX3_sendKeeper_47 : decode cX3_sendKeeper 47 = .ok (.iconst 0, 1) := by decide +kernel
theorem dX3_sendKeeper_48 : decode cX3_sendKeeper 48 = .ok (.istore 4, 2) := by decide +kernel
theorem dX3_sendKeeper_50 : decode cX3_sendKeeper 50 = .ok (.iload 4, 2) := by decide +kernel
theorem dX3_sendKeeper_52 : decode cX3_sendKeeper 52 = .ok (.aload_n 0, 1) := by decide +kernel
theorem dX3_sendKeeper_53 : decode cX3_sendKeeper 53 = .ok (.getfield 21, 3) := by decide +kernel
theorem dX3_sendKeeper_56 : decode cX3_sendKeeper 56 = .ok (.invokevirtual 48, 3) := by decide +kernel
theorem dX3_sendKeeper_59 : decode cX3_sendKeeper 59 = .ok (.if_icmp .ge 72, 3) := by decide +kernel
theorem dX3_sendKeeper_62 : decode cX3_sendKeeper 62 = .ok (.iload_n 3, 1) := by decide +kernel
theorem dX3_sendKeeper_63 : decode cX3_sendKeeper 63 = .ok (.iconst (-1), 1) := by decide +kernel
theorem dX3_sendKeeper_64 : decode cX3_sendKeeper 64 = .ok (.if_icmp .eq 19, 3) := by decide +kernel
theorem dX3_sendKeeper_67 : decode cX3_sendKeeper 67 = .ok (.iload 4, 2) := by decide +kernel
theorem dX3_sendKeeper_69 : decode cX3_sendKeeper 69 = .ok (.iload_n 2, 1) := by decide +kernel
theorem dX3_sendKeeper_70 : decode cX3_sendKeeper 70 = .ok (.isub, 1) := by decide +kernel
theorem dX3_sendKeeper_71 : decode cX3_sendKeeper 71 = .ok (.invokestatic 185, 3) := by decide +kernel
theorem dX3_sendKeeper_74 : decode cX3_sendKeeper 74 = .ok (.iload_n 3, 1) := by decide +kernel
theorem dX3_sendKeeper_75 : decode cX3_sendKeeper 75 = .ok (.iload_n 2, 1) := by decide +kernel
theorem dX3_sendKeeper_76 : decode cX3_sendKeeper 76 = .ok (.isub, 1) := by decide +kernel
theorem dX3_sendKeeper_77 : decode cX3_sendKeeper 77 = .ok (.invokestatic 185, 3) := by decide +kernel
theorem dX3_sendKeeper_80 : decode cX3_sendKeeper 80 = .ok (.if_icmp .ge 7, 3) := by decide +kernel
theorem dX3_sendKeeper_83 : decode cX3_sendKeeper 83 = .ok (.iconst 1, 1) := by decide +kernel
theorem dX3_sendKeeper_84 : decode cX3_sendKeeper 84 = .ok (.goto 4, 3) := by decide +kernel
theorem dX3_sendKeeper_87 : decode cX3_sendKeeper 87 = .ok (.iconst 0, 1) := by decide +kernel
theorem dX3_sendKeeper_88 : decode cX3_sendKeeper 88 = .ok (.istore 5, 2) := by decide +kernel
theorem dX3_sendKeeper_90 : decode cX3_sendKeeper 90 = .ok (.iload 5, 2) := by decide +kernel
theorem dX3_sendKeeper_92 : decode cX3_sendKeeper 92 = .ok (.ifCond .eq 33, 3) := by decide +kernel
theorem dX3_sendKeeper_95 : decode cX3_sendKeeper 95 = .ok (.aload_n 0, 1) := by decide +kernel
theorem dX3_sendKeeper_96 : decode cX3_sendKeeper 96 = .ok (.getfield 21, 3) := by decide +kernel
theorem dX3_sendKeeper_99 : decode cX3_sendKeeper 99 = .ok (.iload 4, 2) := by decide +kernel
theorem dX3_sendKeeper_101 : decode cX3_sendKeeper 101 = .ok (.invokevirtual 62, 3) := by decide +kernel
theorem dX3_sendKeeper_104 : decode cX3_sendKeeper 104 = .ok (.checkcast 72, 3) := by decide +kernel
theorem dX3_sendKeeper_107 : decode cX3_sendKeeper 107 = .ok (.invokevirtual 110, 3) := by decide +kernel
theorem dX3_sendKeeper_110 : decode cX3_sendKeeper 110 = .ok (.ifCond .eq 15, 3) := by decide +kernel
theorem dX3_sendKeeper_113 : decode cX3_sendKeeper 113 = .ok (.aload_n 0, 1) := by decide +kernel
theorem dX3_sendKeeper_114 : decode cX3_sendKeeper 114 = .ok (.iload 4, 2) := by decide +kernel
theorem dX3_sendKeeper_116 : decode cX3_sendKeeper 116 = .ok (.invokevirtual 188, 3) := by decide +kernel
theorem dX3_sendKeeper_119 : decode cX3_sendKeeper 119 = .ok (.ifCond .ne 6, 3) := by decide +kernel
theorem dX3_sendKeeper_122 : decode cX3_sendKeeper 122 = .ok (.iload 4, 2) := by decide +kernel
theorem dX3_sendKeeper_124 : decode cX3_sendKeeper 124 = .ok (.istore_n 3, 1) := by decide +kernel
theorem dX3_sendKeeper_125 : decode cX3_sendKeeper 125 = .ok (.iinc 4 1, 3) := by decide +kernel
theorem dX3_sendKeeper_128 : decode cX3_sendKeeper 128 = .ok (.goto (-78), 3) := by decide +kernel
theorem dX3_sendKeeper_131 : decode cX3_sendKeeper 131 = .ok (.iload_n 3, 1) := by decide +kernel
theorem dX3_sendKeeper_132 : decode cX3_sendKeeper 132 = .ok (.iconst (-1), 1) := by decide +kernel
theorem dX3_sendKeeper_133 : decode cX3_sendKeeper 133 = .ok (.if_icmp .eq 24, 3) := by decide +kernel
theorem dX3_sendKeeper_136 : decode cX3_sendKeeper 136 = .ok (.aload_n 1, 1) := by decide +kernel
theorem dX3_sendKeeper_137 : decode cX3_sendKeeper 137 = .ok (.iload_n 3, 1) := by decide +kernel
theorem dX3_sendKeeper_138 : decode cX3_sendKeeper 138 = .ok (.aload_n 0, 1) := by decide +kernel
theorem dX3_sendKeeper_139 : decode cX3_sendKeeper 139 = .ok (.getfield 42, 3) := by decide +kernel
theorem dX3_sendKeeper_142 : decode cX3_sendKeeper 142 = .ok (.aload_n 0, 1) := by decide +kernel
theorem dX3_sendKeeper_143 : decode cX3_sendKeeper 143 = .ok (.getfield 38, 3) := by decide +kernel
theorem dX3_sendKeeper_146 : decode cX3_sendKeeper 146 = .ok (.iload_n 3, 1) := by decide +kernel
theorem dX3_sendKeeper_147 : decode cX3_sendKeeper 147 = .ok (.iload_n 2, 1) := by decide +kernel
theorem dX3_sendKeeper_148 : decode cX3_sendKeeper 148 = .ok (.isub, 1) := by decide +kernel
theorem dX3_sendKeeper_149 : decode cX3_sendKeeper 149 = .ok (.invokestatic 185, 3) := by decide +kernel
theorem dX3_sendKeeper_152 : decode cX3_sendKeeper 152 = .ok (.imul, 1) := by decide +kernel
theorem dX3_sendKeeper_153 : decode cX3_sendKeeper 153 = .ok (.iadd, 1) := by decide +kernel
theorem dX3_sendKeeper_154 : decode cX3_sendKeeper 154 = .ok (.invokevirtual 191, 3) := by decide +kernel
theorem dX3_sendKeeper_157 : decode cX3_sendKeeper 157 = .ok (.return_, 1) := by decide +kernel
set_option maxRecDepth 20000 in
theorem ggX3_isKept_Jx4a65c_size_8abf5 : GoodIn wsX3_isKept wsJx4a65c_size_8abf5 := goodIn_r _ [7, 8, 40, 41, 42] (by decide +kernel) (by decide +kernel)
set_option maxRecDepth 20000 in
theorem gX3_isKept_Jx4a65c_size_8abf5 : GoodIn wsX3_isKept (wsV RX3 48 RJx4a65c yJx4a65c_size_8abf5 wsJx4a65c_size_8abf5) := goodIn_app (goodIn_of _ (by decide +kernel)) ggX3_isKept_Jx4a65c_size_8abf5
set_option maxRecDepth 20000 in
theorem ggX3_isKept_Jx4a65c_get_915e3 : GoodIn wsX3_isKept wsJx4a65c_get_915e3 := goodIn_r _ [12, 8, 13, 14, 15, 16, 17, 18, 19, 20, 21, 22, 23, 6, 24, 25, 40, 41, 42] (by decide +kernel) (by decide +kernel)
set_option maxRecDepth 20000 in
theorem gX3_isKept_Jx4a65c_get_915e3 : GoodIn wsX3_isKept (wsV RX3 62 RJx4a65c yJx4a65c_get_915e3 wsJx4a65c_get_915e3) := goodIn_app (goodIn_of _ (by decide +kernel)) ggX3_isKept_Jx4a65c_get_915e3
set_option maxRecDepth 20000 in
theorem ggX3_isKept_X1_isAtOrGoesTo : GoodIn wsX3_isKept wsX1_isAtOrGoesTo := goodIn_r _ [30, 31, 32, 43, 44, 45] (by decide +kernel) (by decide +kernel)
set_option maxRecDepth 20000 in
theorem gX3_isKept_X1_isAtOrGoesTo : GoodIn wsX3_isKept (wsV RX3 195 RX1 yX1_isAtOrGoesTo wsX1_isAtOrGoesTo) := goodIn_app (goodIn_of _ (by decide +kernel)) ggX3_isKept_X1_isAtOrGoesTo
theorem dX3_isKept_0 : decode cX3_isKept 0 = .ok (.iconst 0, 1) := by decide +kernel
theorem dX3_isKept_1 : decode cX3_isKept 1 = .ok (.istore_n 2, 1) := by decide +kernel
theorem dX3_isKept_2 : decode cX3_isKept 2 = .ok (.iload_n 2, 1) := by decide +kernel
theorem dX3_isKept_3 : decode cX3_isKept 3 = .ok (.aload_n 0, 1) := by decide +kernel
theorem dX3_isKept_4 : decode cX3_isKept 4 = .ok (.getfield 28, 3) := by decide +kernel
theorem dX3_isKept_7 : decode cX3_isKept 7 = .ok (.invokevirtual 48, 3) := by decide +kernel
theorem dX3_isKept_10 : decode cX3_isKept 10 = .ok (.if_icmp .ge 29, 3) := by decide +kernel
theorem dX3_isKept_13 : decode cX3_isKept 13 = .ok (.aload_n 0, 1) := by decide +kernel
theorem dX3_isKept_14 : decode cX3_isKept 14 = .ok (.getfield 28, 3) := by decide +kernel
theorem dX3_isKept_17 : decode cX3_isKept 17 = .ok (.iload_n 2, 1) := by decide +kernel
theorem dX3_isKept_18 : decode cX3_isKept 18 = .ok (.invokevirtual 62, 3) := by decide +kernel
theorem dX3_isKept_21 : decode cX3_isKept 21 = .ok (.checkcast 66, 3) := by decide +kernel
theorem dX3_isKept_24 : decode cX3_isKept 24 = .ok (.iload_n 1, 1) := by decide +kernel
theorem dX3_isKept_25 : decode cX3_isKept 25 = .ok (.invokevirtual 195, 3) := by decide +kernel
theorem dX3_isKept_28 : decode cX3_isKept 28 = .ok (.ifCond .eq 5, 3) := by decide +kernel
theorem dX3_isKept_31 : decode cX3_isKept 31 = .ok (.iconst 1, 1) := by decide +kernel
theorem dX3_isKept_32 : decode cX3_isKept 32 = .ok (.ireturn, 1) := by decide +kernel
theorem dX3_isKept_33 : decode cX3_isKept 33 = .ok (.iinc 2 1, 3) := by decide +kernel
theorem dX3_isKept_36 : decode cX3_isKept 36 = .ok (.goto (-34), 3) := by decide +kernel
theorem dX3_isKept_39 : decode cX3_isKept 39 = .ok (.iconst 0, 1) := by decide +kernel
theorem dX3_isKept_40 : decode cX3_isKept 40 = .ok (.ireturn, 1) := by decide +kernel
set_option maxRecDepth 20000 in
theorem ggX3_shipsAllThrough_Jx4a65c_size_8abf5 : GoodIn wsX3_shipsAllThrough wsJx4a65c_size_8abf5 := goodIn_r _ [8, 9, 42, 43, 44] (by decide +kernel) (by decide +kernel)
set_option maxRecDepth 20000 in
theorem gX3_shipsAllThrough_Jx4a65c_size_8abf5 : GoodIn wsX3_shipsAllThrough (wsV RX3 48 RJx4a65c yJx4a65c_size_8abf5 wsJx4a65c_size_8abf5) := goodIn_app (goodIn_of _ (by decide +kernel)) ggX3_shipsAllThrough_Jx4a65c_size_8abf5
set_option maxRecDepth 20000 in
theorem ggX3_shipsAllThrough_Jx4a65c_get_915e3 : GoodIn wsX3_shipsAllThrough wsJx4a65c_get_915e3 := goodIn_r _ [13, 9, 14, 15, 16, 17, 18, 19, 20, 21, 22, 23, 24, 7, 25, 26, 42, 43, 44] (by decide +kernel) (by decide +kernel)
set_option maxRecDepth 20000 in
theorem gX3_shipsAllThrough_Jx4a65c_get_915e3 : GoodIn wsX3_shipsAllThrough (wsV RX3 62 RJx4a65c yJx4a65c_get_915e3 wsJx4a65c_get_915e3) := goodIn_app (goodIn_of _ (by decide +kernel)) ggX3_shipsAllThrough_Jx4a65c_get_915e3
theorem dX3_shipsAllThrough_0 : decode cX3_shipsAllThrough 0 = .ok (.iconst 0, 1) := by decide +kernel
theorem dX3_shipsAllThrough_1 : decode cX3_shipsAllThrough 1 = .ok (.istore_n 1, 1) := by decide +kernel
theorem dX3_shipsAllThrough_2 : decode cX3_shipsAllThrough 2 = .ok (.iconst 0, 1) := by decide +kernel
theorem dX3_shipsAllThrough_3 : decode cX3_shipsAllThrough 3 = .ok (.istore_n 2, 1) := by decide +kernel
theorem dX3_shipsAllThrough_4 : decode cX3_shipsAllThrough 4 = .ok (.iload_n 2, 1) := by decide +kernel
theorem dX3_shipsAllThrough_5 : decode cX3_shipsAllThrough 5 = .ok (.aload_n 0, 1) := by decide +kernel
theorem dX3_shipsAllThrough_6 : decode cX3_shipsAllThrough 6 = .ok (.getfield 25, 3) := by decide +kernel
theorem dX3_shipsAllThrough_9 : decode cX3_shipsAllThrough 9 = .ok (.invokevirtual 48, 3) := by decide +kernel
theorem dX3_shipsAllThrough_12 : decode cX3_shipsAllThrough 12 = .ok (.if_icmp .ge 35, 3) := by decide +kernel
theorem dX3_shipsAllThrough_15 : decode cX3_shipsAllThrough 15 = .ok (.iload_n 1, 1) := by decide +kernel
theorem dX3_shipsAllThrough_16 : decode cX3_shipsAllThrough 16 = .ok (.aload_n 0, 1) := by decide +kernel
theorem dX3_shipsAllThrough_17 : decode cX3_shipsAllThrough 17 = .ok (.getfield 25, 3) := by decide +kernel
theorem dX3_shipsAllThrough_20 : decode cX3_shipsAllThrough 20 = .ok (.iload_n 2, 1) := by decide +kernel
theorem dX3_shipsAllThrough_21 : decode cX3_shipsAllThrough 21 = .ok (.invokevirtual 62, 3) := by decide +kernel
theorem dX3_shipsAllThrough_24 : decode cX3_shipsAllThrough 24 = .ok (.checkcast 77, 3) := by decide +kernel
theorem dX3_shipsAllThrough_27 : decode cX3_shipsAllThrough 27 = .ok (.getfield 100, 3) := by decide +kernel
theorem dX3_shipsAllThrough_30 : decode cX3_shipsAllThrough 30 = .ok (.iconst 3, 1) := by decide +kernel
theorem dX3_shipsAllThrough_31 : decode cX3_shipsAllThrough 31 = .ok (.if_icmp .ne 7, 3) := by decide +kernel
theorem dX3_shipsAllThrough_34 : decode cX3_shipsAllThrough 34 = .ok (.iconst 1, 1) := by decide +kernel
theorem dX3_shipsAllThrough_35 : decode cX3_shipsAllThrough 35 = .ok (.goto 4, 3) := by decide +kernel
theorem dX3_shipsAllThrough_38 : decode cX3_shipsAllThrough 38 = .ok (.iconst 0, 1) := by decide +kernel
theorem dX3_shipsAllThrough_39 : decode cX3_shipsAllThrough 39 = .ok (.iadd, 1) := by decide +kernel
theorem dX3_shipsAllThrough_40 : decode cX3_shipsAllThrough 40 = .ok (.istore_n 1, 1) := by decide +kernel
theorem dX3_shipsAllThrough_41 : decode cX3_shipsAllThrough 41 = .ok (.iinc 2 1, 3) := by decide +kernel
theorem dX3_shipsAllThrough_44 : decode cX3_shipsAllThrough 44 = .ok (.goto (-40), 3) := by decide +kernel
theorem dX3_shipsAllThrough_47 : decode cX3_shipsAllThrough 47 = .ok (.iload_n 1, 1) := by decide +kernel
theorem dX3_shipsAllThrough_48 : decode cX3_shipsAllThrough 48 = .ok (.ireturn, 1) := by decide +kernel
set_option maxRecDepth 20000 in
theorem ggX3_longestWait_Jx4a65c_size_8abf5 : GoodIn wsX3_longestWait wsJx4a65c_size_8abf5 := goodIn_r _ [12, 13, 46, 47, 48] (by decide +kernel) (by decide +kernel)
set_option maxRecDepth 20000 in
theorem gX3_longestWait_Jx4a65c_size_8abf5 : GoodIn wsX3_longestWait (wsV RX3 48 RJx4a65c yJx4a65c_size_8abf5 wsJx4a65c_size_8abf5) := goodIn_app (goodIn_of _ (by decide +kernel)) ggX3_longestWait_Jx4a65c_size_8abf5
set_option maxRecDepth 20000 in
theorem ggX3_longestWait_Jx4a65c_get_915e3 : GoodIn wsX3_longestWait wsJx4a65c_get_915e3 := goodIn_r _ [17, 13, 18, 19, 20, 21, 22, 23, 24, 25, 26, 27, 28, 11, 29, 30, 46, 47, 48] (by decide +kernel) (by decide +kernel)
set_option maxRecDepth 20000 in
theorem gX3_longestWait_Jx4a65c_get_915e3 : GoodIn wsX3_longestWait (wsV RX3 62 RJx4a65c yJx4a65c_get_915e3 wsJx4a65c_get_915e3) := goodIn_app (goodIn_of _ (by decide +kernel)) ggX3_longestWait_Jx4a65c_get_915e3
theorem dX3_longestWait_0 : decode cX3_longestWait 0 = .ok (.iconst 0, 1) := by decide +kernel
theorem dX3_longestWait_1 : decode cX3_longestWait 1 = .ok (.istore_n 1, 1) := by decide +kernel
theorem dX3_longestWait_2 : decode cX3_longestWait 2 = .ok (.iconst 0, 1) := by decide +kernel
theorem dX3_longestWait_3 : decode cX3_longestWait 3 = .ok (.istore_n 2, 1) := by decide +kernel
theorem dX3_longestWait_4 : decode cX3_longestWait 4 = .ok (.iload_n 2, 1) := by decide +kernel
theorem dX3_longestWait_5 : decode cX3_longestWait 5 = .ok (.aload_n 0, 1) := by decide +kernel
theorem dX3_longestWait_6 : decode cX3_longestWait 6 = .ok (.getfield 25, 3) := by decide +kernel
theorem dX3_longestWait_9 : decode cX3_longestWait 9 = .ok (.invokevirtual 48, 3) := by decide +kernel
theorem dX3_longestWait_12 : decode cX3_longestWait 12 = .ok (.if_icmp .ge 28, 3) := by decide +kernel
theorem dX3_longestWait_15 : decode cX3_longestWait 15 = .ok (.iload_n 1, 1) := by decide +kernel
theorem dX3_longestWait_16 : decode cX3_longestWait 16 = .ok (.aload_n 0, 1) := by decide +kernel
theorem dX3_longestWait_17 : decode cX3_longestWait 17 = .ok (.getfield 25, 3) := by decide +kernel
theorem dX3_longestWait_20 : decode cX3_longestWait 20 = .ok (.iload_n 2, 1) := by decide +kernel
theorem dX3_longestWait_21 : decode cX3_longestWait 21 = .ok (.invokevirtual 62, 3) := by decide +kernel
theorem dX3_longestWait_24 : decode cX3_longestWait 24 = .ok (.checkcast 77, 3) := by decide +kernel
theorem dX3_longestWait_27 : decode cX3_longestWait 27 = .ok (.getfield 161, 3) := by decide +kernel
theorem dX3_longestWait_30 : decode cX3_longestWait 30 = .ok (.invokestatic 198, 3) := by decide +kernel
theorem dX3_longestWait_33 : decode cX3_longestWait 33 = .ok (.istore_n 1, 1) := by decide +kernel
theorem dX3_longestWait_34 : decode cX3_longestWait 34 = .ok (.iinc 2 1, 3) := by decide +kernel
theorem dX3_longestWait_37 : decode cX3_longestWait 37 = .ok (.goto (-33), 3) := by decide +kernel
theorem dX3_longestWait_40 : decode cX3_longestWait 40 = .ok (.iload_n 1, 1) := by decide +kernel
theorem dX3_longestWait_41 : decode cX3_longestWait 41 = .ok (.ireturn, 1) := by decide +kernel
set_option maxRecDepth 20000 in
theorem ggX3_foretell_Jx4a65c_size_8abf5 : GoodIn wsX3_foretell wsJx4a65c_size_8abf5 := goodIn_r _ [8, 9, 74, 75, 76] (by decide +kernel) (by decide +kernel)
set_option maxRecDepth 20000 in
theorem gX3_foretell_Jx4a65c_size_8abf5 : GoodIn wsX3_foretell (wsV RX3 48 RJx4a65c yJx4a65c_size_8abf5 wsJx4a65c_size_8abf5) := goodIn_app (goodIn_of _ (by decide +kernel)) ggX3_foretell_Jx4a65c_size_8abf5
set_option maxRecDepth 20000 in
theorem ggX3_foretell_X3_firstPassage : GoodIn wsX3_foretell wsX3_firstPassage := goodIn_r _ [14, 1, 2, 15, 16, 17, 18, 19, 20, 7, 21, 9, 22, 23, 24, 25, 26, 27, 28, 29, 30, 31, 32, 33, 34, 35, 36, 37, 38, 39, 40, 41, 42, 43, 44, 45, 13, 46, 47, 48, 49, 50, 51, 52, 53, 54, 55, 56, 57, 58, 59, 60, 61, 62, 63, 64, 65, 66, 67, 68, 69, 70, 71, 72, 73, 74, 75, 76, 77, 78, 79, 80, 81, 82] (by decide +kernel) (by decide +kernel)
set_option maxRecDepth 20000 in
theorem gX3_foretell_X3_firstPassage : GoodIn wsX3_foretell (wsV RX3 201 RX3 yX3_firstPassage wsX3_firstPassage) := goodIn_app (goodIn_of _ (by decide +kernel)) ggX3_foretell_X3_firstPassage
set_option maxRecDepth 20000 in
theorem ggX3_foretell_Jx4a65c_get_915e3 : GoodIn wsX3_foretell wsJx4a65c_get_915e3 := goodIn_r _ [21, 9, 22, 23, 24, 25, 26, 27, 28, 29, 30, 31, 32, 7, 33, 34, 74, 75, 76] (by decide +kernel) (by decide +kernel)
set_option maxRecDepth 20000 in
theorem gX3_foretell_Jx4a65c_get_915e3 : GoodIn wsX3_foretell (wsV RX3 62 RJx4a65c yJx4a65c_get_915e3 wsJx4a65c_get_915e3) := goodIn_app (goodIn_of _ (by decide +kernel)) ggX3_foretell_Jx4a65c_get_915e3
theorem dX3_foretell_0 : decode cX3_foretell 0 = .ok (.aload_n 0, 1) := by decide +kernel
theorem dX3_foretell_1 : decode cX3_foretell 1 = .ok (.getfield 21, 3) := by decide +kernel
theorem dX3_foretell_4 : decode cX3_foretell 4 = .ok (.invokevirtual 48, 3) := by decide +kernel
theorem dX3_foretell_7 : decode cX3_foretell 7 = .ok (.iconst 1, 1) := by decide +kernel
theorem dX3_foretell_8 : decode cX3_foretell 8 = .ok (.isub, 1) := by decide +kernel
theorem dX3_foretell_9 : decode cX3_foretell 9 = .ok (.istore 4, 2) := by decide +kernel
theorem dX3_foretell_11 : decode cX3_foretell 11 = .ok (.iload_n 3, 1) := by decide +kernel
theorem dX3_foretell_12 : decode cX3_foretell 12 = .ok (.istore 5, 2) := by decide +kernel
theorem dX3_foretell_14 : decode cX3_foretell 14 = .ok (.iconst 0, 1) := by decide +kernel
theorem dX3_foretell_15 : decode cX3_foretell 15 = .ok (.istore 6, 2) := by decide +kernel
theorem dX3_foretell_17 : decode cX3_foretell 17 = .ok (.iload 6, 2) := by decide +kernel
theorem dX3_foretell_19 : decode cX3_foretell 19 = .ok (.iload 4, 2) := by decide +kernel
theorem dX3_foretell_21 : decode cX3_foretell 21 = .ok (.if_icmp .gt 83, 3) := by decide +kernel
theorem dX3_foretell_24 : decode cX3_foretell 24 = .ok (.iload_n 2, 1) := by decide +kernel
theorem dX3_foretell_25 : decode cX3_foretell 25 = .ok (.ifCond .eq 8, 3) := by decide +kernel
theorem dX3_foretell_28 : decode cX3_foretell 28 = .ok (.iload 6, 2) := by decide +kernel
theorem dX3_foretell_30 : decode cX3_foretell 30 = .ok (.goto 8, 3) := by decide +kernel
theorem dX3_foretell_33 : decode cX3_foretell 33 = .ok (.iload 4, 2) := by decide +kernel
theorem dX3_foretell_35 : decode cX3_foretell 35 = .ok (.iload 6, 2) := by decide +kernel
theorem dX3_foretell_37 : decode cX3_foretell 37 = .ok (.isub, 1) := by decide +kernel
theorem dX3_foretell_38 : decode cX3_foretell 38 = .ok (.istore 7, 2) := by decide +kernel
theorem dX3_foretell_40 : decode cX3_foretell 40 = .ok (.aload_n 0, 1) := by decide +kernel
theorem dX3_foretell_41 : decode cX3_foretell 41 = .ok (.iload_n 1, 1) := by decide +kernel
theorem dX3_foretell_42 : decode cX3_foretell 42 = .ok (.iload 7, 2) := by decide +kernel
theorem dX3_foretell_44 : decode cX3_foretell 44 = .ok (.iload 5, 2) := by decide +kernel
theorem dX3_foretell_46 : decode cX3_foretell 46 = .ok (.invokevirtual 201, 3) := by decide +kernel
theorem dX3_foretell_49 : decode cX3_foretell 49 = .ok (.istore 5, 2) := by decide +kernel
theorem dX3_foretell_51 : decode cX3_foretell 51 = .ok (.iload 5, 2) := by decide +kernel
theorem dX3_foretell_53 : decode cX3_foretell 53 = .ok (.iconst (-1), 1) := by decide +kernel
theorem dX3_foretell_54 : decode cX3_foretell 54 = .ok (.if_icmp .eq 10, 3) := by decide +kernel
theorem dX3_foretell_57 : decode cX3_foretell 57 = .ok (.iload 6, 2) := by decide +kernel
theorem dX3_foretell_59 : decode cX3_foretell 59 = .ok (.iload 4, 2) := by decide +kernel
theorem dX3_foretell_61 : decode cX3_foretell 61 = .ok (.if_icmp .ne 6, 3) := by decide +kernel
theorem dX3_foretell_64 : decode cX3_foretell 64 = .ok (.iload 5, 2) := by decide +kernel
theorem dX3_foretell_66 : decode cX3_foretell 66 = .ok (.ireturn, 1) := by decide +kernel
theorem dX3_foretell_67 : decode cX3_foretell 67 = .ok (.iload 5, 2) := by decide +kernel
theorem dX3_foretell_69 : decode cX3_foretell 69 = .ok (.aload_n 0, 1) := by decide +kernel
theorem dX3_foretell_70 : decode cX3_foretell 70 = .ok (.getfield 21, 3) := by decide +kernel
theorem dX3_foretell_73 : decode cX3_foretell 73 = .ok (.iload_n 2, 1) := by decide +kernel
theorem dX3_foretell_74 : decode cX3_foretell 74 = .ok (.ifCond .eq 8, 3) := by decide +kernel
theorem dX3_foretell_77 : decode cX3_foretell 77 = .ok (.iload 7, 2) := by decide +kernel
theorem dX3_foretell_79 : decode cX3_foretell 79 = .ok (.goto 7, 3) := by decide +kernel
theorem dX3_foretell_82 : decode cX3_foretell 82 = .ok (.iload 7, 2) := by decide +kernel
theorem dX3_foretell_84 : decode cX3_foretell 84 = .ok (.iconst 1, 1) := by decide +kernel
theorem dX3_foretell_85 : decode cX3_foretell 85 = .ok (.isub, 1) := by decide +kernel
theorem dX3_foretell_86 : decode cX3_foretell 86 = .ok (.invokevirtual 62, 3) := by decide +kernel
theorem dX3_foretell_89 : decode cX3_foretell 89 = .ok (.checkcast 72, 3) := by decide +kernel
theorem dX3_foretell_92 : decode cX3_foretell 92 = .ok (.getfield 158, 3) := by decide +kernel
theorem dX3_foretell_95 : decode cX3_foretell 95 = .ok (.iadd, 1) := by decide +kernel
theorem dX3_foretell_96 : decode cX3_foretell 96 = .ok (.istore 5, 2) := by decide +kernel
theorem dX3_foretell_98 : decode cX3_foretell 98 = .ok (.iinc 6 1, 3) := by decide +kernel
theorem dX3_foretell_101 : decode cX3_foretell 101 = .ok (.goto (-84), 3) := by decide +kernel
theorem dX3_foretell_104 : decode cX3_foretell 104 = .ok (.iconst (-1), 1) := by decide +kernel
theorem dX3_foretell_105 : decode cX3_foretell 105 = .ok (.ireturn, 1) := by decide +kernel
set_option maxRecDepth 20000 in
theorem ggX3_firstPassage_Jx4a65c_get_915e3 : GoodIn wsX3_firstPassage wsJx4a65c_get_915e3 := goodIn_r _ [10, 11, 12, 13, 14, 15, 16, 17, 18, 19, 20, 21, 22, 9, 23, 24, 65, 66, 67] (by decide +kernel) (by decide +kernel)
set_option maxRecDepth 20000 in
theorem gX3_firstPassage_Jx4a65c_get_915e3 : GoodIn wsX3_firstPassage (wsV RX3 62 RJx4a65c yJx4a65c_get_915e3 wsJx4a65c_get_915e3) := goodIn_app (goodIn_of _ (by decide +kernel)) ggX3_firstPassage_Jx4a65c_get_915e3
set_option maxRecDepth 20000 in
theorem ggX3_firstPassage_X7_touches : GoodIn wsX3_firstPassage wsX7_touches := goodIn_r _ [29, 30, 31, 32, 68, 69, 70, 71, 72] (by decide +kernel) (by decide +kernel)
set_option maxRecDepth 20000 in
theorem gX3_firstPassage_X7_touches : GoodIn wsX3_firstPassage (wsV RX3 167 RX7 yX7_touches wsX7_touches) := goodIn_app (goodIn_of _ (by decide +kernel)) ggX3_firstPassage_X7_touches
set_option maxRecDepth 20000 in
theorem ggX3_firstPassage_X3_comesUnder : GoodIn wsX3_firstPassage wsX3_comesUnder := goodIn_r _ [37, 38, 1, 2, 39, 40, 41, 42, 43, 44, 45, 6, 7, 8, 9, 10, 11, 12, 13, 14, 15, 16, 17, 18, 19, 20, 21, 22, 23, 24, 46, 47, 48, 49, 50, 51, 52, 53, 54, 55, 56, 57, 58, 59, 60, 61, 62, 63, 64, 73, 65, 66, 67] (by decide +kernel) (by decide +kernel)
set_option maxRecDepth 20000 in
theorem gX3_firstPassage_X3_comesUnder : GoodIn wsX3_firstPassage (wsV RX3 120 RX3 yX3_comesUnder wsX3_comesUnder) := goodIn_app (goodIn_of _ (by decide +kernel)) ggX3_firstPassage_X3_comesUnder
theorem dX3_firstPassage_0 : decode cX3_firstPassage 0 = .ok (.aload_n 0, 1) := by decide +kernel
theorem dX3_firstPassage_1 : decode cX3_firstPassage 1 = .ok (.getfield 21, 3) := by decide +kernel
theorem dX3_firstPassage_4 : decode cX3_firstPassage 4 = .ok (.iload_n 2, 1) := by decide +kernel
theorem dX3_firstPassage_5 : decode cX3_firstPassage 5 = .ok (.invokevirtual 62, 3) := by decide +kernel
theorem dX3_firstPassage_8 : decode cX3_firstPassage 8 = .ok (.checkcast 72, 3) := by decide +kernel
theorem dX3_firstPassage_11 : decode cX3_firstPassage 11 = .ok (.astore 4, 2) := by decide +kernel
theorem dX3_firstPassage_13 : decode cX3_firstPassage 13 = .ok (.iload_n 3, 1) := by decide +kernel
theorem dX3_firstPassage_14 : decode cX3_firstPassage 14 = .ok (.istore 5, 2) := by decide +kernel
theorem dX3_firstPassage_16 : decode cX3_firstPassage 16 = .ok (.iload 5, 2) := by decide +kernel
theorem dX3_firstPassage_18 : decode cX3_firstPassage 18 = .ok (.sipush 1440, 3) := by decide +kernel
theorem dX3_firstPassage_21 : decode cX3_firstPassage 21 = .ok (.if_icmp .ge 72, 3) := by decide +kernel
theorem dX3_firstPassage_24 : decode cX3_firstPassage 24 = .ok (.iload 5, 2) := by decide +kernel
theorem dX3_firstPassage_26 : decode cX3_firstPassage 26 = .ok (.aload 4, 2) := by decide +kernel
theorem dX3_firstPassage_28 : decode cX3_firstPassage 28 = .ok (.getfield 176, 3) := by decide +kernel
theorem dX3_firstPassage_31 : decode cX3_firstPassage 31 = .ok (.isub, 1) := by decide +kernel
theorem dX3_firstPassage_32 : decode cX3_firstPassage 32 = .ok (.istore 6, 2) := by decide +kernel
theorem dX3_firstPassage_34 : decode cX3_firstPassage 34 = .ok (.iload 6, 2) := by decide +kernel
theorem dX3_firstPassage_36 : decode cX3_firstPassage 36 = .ok (.iload_n 3, 1) := by decide +kernel
theorem dX3_firstPassage_37 : decode cX3_firstPassage 37 = .ok (.if_icmp .lt 28, 3) := by decide +kernel
theorem dX3_firstPassage_40 : decode cX3_firstPassage 40 = .ok (.aload_n 0, 1) := by decide +kernel
theorem dX3_firstPassage_41 : decode cX3_firstPassage 41 = .ok (.getfield 34, 3) := by decide +kernel
theorem dX3_firstPassage_44 : decode cX3_firstPassage 44 = .ok (.iload_n 2, 1) := by decide +kernel
theorem dX3_firstPassage_45 : decode cX3_firstPassage 45 = .ok (.iload 6, 2) := by decide +kernel
theorem dX3_firstPassage_47 : decode cX3_firstPassage 47 = .ok (.iload 5, 2) := by decide +kernel
theorem dX3_firstPassage_49 : decode cX3_firstPassage 49 = .ok (.aload 4, 2) := by decide +kernel
theorem dX3_firstPassage_51 : decode cX3_firstPassage 51 = .ok (.getfield 164, 3) := by decide +kernel
theorem dX3_firstPassage_54 : decode cX3_firstPassage 54 = .ok (.iadd, 1) := by decide +kernel
theorem dX3_firstPassage_55 : decode cX3_firstPassage 55 = .ok (.invokevirtual 167, 3) := by decide +kernel
theorem dX3_firstPassage_58 : decode cX3_firstPassage 58 = .ok (.ifCond .ne 7, 3) := by decide +kernel
theorem dX3_firstPassage_61 : decode cX3_firstPassage 61 = .ok (.iconst 1, 1) := by decide +kernel
theorem dX3_firstPassage_62 : decode cX3_firstPassage 62 = .ok (.goto 4, 3) := by decide +kernel
theorem dX3_firstPassage_65 : decode cX3_firstPassage 65 = .ok (.iconst 0, 1) := by decide +kernel
theorem dX3_firstPassage_66 : decode cX3_firstPassage 66 = .ok (.istore 7, 2) := by decide +kernel
theorem dX3_firstPassage_68 : decode cX3_firstPassage 68 = .ok (.iload 7, 2) := by decide +kernel
theorem dX3_firstPassage_70 : decode cX3_firstPassage 70 = .ok (.ifCond .ne 14, 3) := by decide +kernel
theorem dX3_firstPassage_73 : decode cX3_firstPassage 73 = .ok (.aload_n 0, 1) := by decide +kernel
theorem dX3_firstPassage_74 : decode cX3_firstPassage 74 = .ok (.iload_n 1, 1) := by decide +kernel
theorem dX3_firstPassage_75 : decode cX3_firstPassage 75 = .ok (.iload_n 2, 1) := by decide +kernel
theorem dX3_firstPassage_76 : decode cX3_firstPassage 76 = .ok (.iload 5, 2) := by decide +kernel
theorem dX3_firstPassage_78 : decode cX3_firstPassage 78 = .ok (.invokevirtual 120, 3) := by decide +kernel
theorem dX3_firstPassage_81 : decode cX3_firstPassage 81 = .ok (.ifCond .eq 6, 3) := by decide +kernel
theorem dX3_firstPassage_84 : decode cX3_firstPassage 84 = .ok (.iload 5, 2) := by decide +kernel
theorem dX3_firstPassage_86 : decode cX3_firstPassage 86 = .ok (.ireturn, 1) := by decide +kernel
theorem dX3_firstPassage_87 : decode cX3_firstPassage 87 = .ok (.iinc 5 1, 3) := by decide +kernel
theorem dX3_firstPassage_90 : decode cX3_firstPassage 90 = .ok (.goto (-74), 3) := by decide +kernel
theorem dX3_firstPassage_93 : decode cX3_firstPassage 93 = .ok (.iconst (-1), 1) := by decide +kernel
theorem dX3_firstPassage_94 : decode cX3_firstPassage 94 = .ok (.ireturn, 1) := by decide +kernel
theorem dX4_init_0 : decode cX4_init 0 = .ok (.aload_n 0, 1) := by decide +kernel
theorem dX4_init_1 : decode cX4_init 1 = .ok (.invokespecial 3, 3) := by decide +kernel
theorem dX4_init_4 : decode cX4_init 4 = .ok (.aload_n 0, 1) := by decide +kernel
theorem dX4_init_5 : decode cX4_init 5 = .ok (.bipush 8, 2) := by decide +kernel
theorem dX4_init_7 : decode cX4_init 7 = .ok (.newarray .int, 2) := by decide +kernel
theorem dX4_init_9 : decode cX4_init 9 = .ok (.putfield 9, 3) := by decide +kernel
theorem dX4_init_12 : decode cX4_init 12 = .ok (.aload_n 0, 1) := by decide +kernel
theorem dX4_init_13 : decode cX4_init 13 = .ok (.iconst 0, 1) := by decide +kernel
theorem dX4_init_14 : decode cX4_init 14 = .ok (.putfield 15, 3) := by decide +kernel
theorem dX4_init_17 : decode cX4_init 17 = .ok (.aload_n 0, 1) := by decide +kernel
theorem dX4_init_18 : decode cX4_init 18 = .ok (.iconst (-1), 1) := by decide +kernel
theorem dX4_init_19 : decode cX4_init 19 = .ok (.putfield 19, 3) := by decide +kernel
theorem dX4_init_22 : decode cX4_init 22 = .ok (.aload_n 0, 1) := by decide +kernel
theorem dX4_init_23 : decode cX4_init 23 = .ok (.iconst 0, 1) := by decide +kernel
theorem dX4_init_24 : decode cX4_init 24 = .ok (.putfield 22, 3) := by decide +kernel
theorem dX4_init_27 : decode cX4_init 27 = .ok (.aload_n 0, 1) := by decide +kernel
theorem dX4_init_28 : decode cX4_init 28 = .ok (.iconst (-1), 1) := by decide +kernel
theorem dX4_init_29 : decode cX4_init 29 = .ok (.putfield 25, 3) := by decide +kernel
theorem dX4_init_32 : decode cX4_init 32 = .ok (.aload_n 0, 1) := by decide +kernel
theorem dX4_init_33 : decode cX4_init 33 = .ok (.iload_n 1, 1) := by decide +kernel
theorem dX4_init_34 : decode cX4_init 34 = .ok (.putfield 28, 3) := by decide +kernel
theorem dX4_init_37 : decode cX4_init 37 = .ok (.aload_n 0, 1) := by decide +kernel
theorem dX4_init_38 : decode cX4_init 38 = .ok (.iload_n 2, 1) := by decide +kernel
theorem dX4_init_39 : decode cX4_init 39 = .ok (.putfield 31, 3) := by decide +kernel
theorem dX4_init_42 : decode cX4_init 42 = .ok (.aload_n 0, 1) := by decide +kernel
theorem dX4_init_43 : decode cX4_init 43 = .ok (.iload_n 3, 1) := by decide +kernel
theorem dX4_init_44 : decode cX4_init 44 = .ok (.putfield 35, 3) := by decide +kernel
theorem dX4_init_47 : decode cX4_init 47 = .ok (.iconst 0, 1) := by decide +kernel
theorem dX4_init_48 : decode cX4_init 48 = .ok (.istore 4, 2) := by decide +kernel
theorem dX4_init_50 : decode cX4_init 50 = .ok (.iload 4, 2) := by decide +kernel
theorem dX4_init_52 : decode cX4_init 52 = .ok (.bipush 8, 2) := by decide +kernel
theorem dX4_init_54 : decode cX4_init 54 = .ok (.if_icmp .ge 17, 3) := by decide +kernel
theorem dX4_init_57 : decode cX4_init 57 = .ok (.aload_n 0, 1) := by decide +kernel
theorem dX4_init_58 : decode cX4_init 58 = .ok (.getfield 9, 3) := by decide +kernel
theorem dX4_init_61 : decode cX4_init 61 = .ok (.iload 4, 2) := by decide +kernel
theorem dX4_init_63 : decode cX4_init 63 = .ok (.iconst (-1), 1) := by decide +kernel
theorem dX4_init_64 : decode cX4_init 64 = .ok (.iastore, 1) := by decide +kernel
theorem dX4_init_65 : decode cX4_init 65 = .ok (.iinc 4 1, 3) := by decide +kernel
theorem dX4_init_68 : decode cX4_init 68 = .ok (.goto (-18), 3) := by decide +kernel
theorem dX4_init_71 : decode cX4_init 71 = .ok (.return_, 1) := by decide +kernel
theorem dX4_isAt_0 : decode cX4_isAt 0 = .ok (.aload_n 0, 1) := by decide +kernel
theorem dX4_isAt_1 : decode cX4_isAt 1 = .ok (.getfield 15, 3) := by decide +kernel
theorem dX4_isAt_4 : decode cX4_isAt 4 = .ok (.iconst 1, 1) := by decide +kernel
theorem dX4_isAt_5 : decode cX4_isAt 5 = .ok (.if_icmp .ne 15, 3) := by decide +kernel
theorem dX4_isAt_8 : decode cX4_isAt 8 = .ok (.aload_n 0, 1) := by decide +kernel
theorem dX4_isAt_9 : decode cX4_isAt 9 = .ok (.getfield 19, 3) := by decide +kernel
theorem dX4_isAt_12 : decode cX4_isAt 12 = .ok (.iload_n 1, 1) := by decide +kernel
theorem dX4_isAt_13 : decode cX4_isAt 13 = .ok (.if_icmp .ne 7, 3) := by decide +kernel
theorem dX4_isAt_16 : decode cX4_isAt 16 = .ok (.iconst 1, 1) := by decide +kernel
theorem dX4_isAt_17 : decode cX4_isAt 17 = .ok (.goto 4, 3) := by decide +kernel
theorem dX4_isAt_20 : decode cX4_isAt 20 = .ok (.iconst 0, 1) := by decide +kernel
theorem dX4_isAt_21 : decode cX4_isAt 21 = .ok (.ireturn, 1) := by decide +kernel
theorem dX4_arrivesIn_0 : decode cX4_arrivesIn 0 = .ok (.aload_n 0, 1) := by decide +kernel
theorem dX4_arrivesIn_1 : decode cX4_arrivesIn 1 = .ok (.getfield 15, 3) := by decide +kernel
theorem dX4_arrivesIn_4 : decode cX4_arrivesIn 4 = .ok (.ifCond .eq 11, 3) := by decide +kernel
theorem dX4_arrivesIn_7 : decode cX4_arrivesIn 7 = .ok (.aload_n 0, 1) := by decide +kernel
theorem dX4_arrivesIn_8 : decode cX4_arrivesIn 8 = .ok (.getfield 15, 3) := by decide +kernel
theorem dX4_arrivesIn_11 : decode cX4_arrivesIn 11 = .ok (.iconst 2, 1) := by decide +kernel
theorem dX4_arrivesIn_12 : decode cX4_arrivesIn 12 = .ok (.if_icmp .ne 15, 3) := by decide +kernel
theorem dX4_arrivesIn_15 : decode cX4_arrivesIn 15 = .ok (.aload_n 0, 1) := by decide +kernel
theorem dX4_arrivesIn_16 : decode cX4_arrivesIn 16 = .ok (.getfield 35, 3) := by decide +kernel
theorem dX4_arrivesIn_19 : decode cX4_arrivesIn 19 = .ok (.iload_n 1, 1) := by decide +kernel
theorem dX4_arrivesIn_20 : decode cX4_arrivesIn 20 = .ok (.if_icmp .ne 7, 3) := by decide +kernel
theorem dX4_arrivesIn_23 : decode cX4_arrivesIn 23 = .ok (.iconst 1, 1) := by decide +kernel
theorem dX4_arrivesIn_24 : decode cX4_arrivesIn 24 = .ok (.goto 4, 3) := by decide +kernel
theorem dX4_arrivesIn_27 : decode cX4_arrivesIn 27 = .ok (.iconst 0, 1) := by decide +kernel
theorem dX4_arrivesIn_28 : decode cX4_arrivesIn 28 = .ok (.ireturn, 1) := by decide +kernel
theorem dX5_init_0 : decode cX5_init 0 = .ok (.aload_n 0, 1) := by decide +kernel
theorem dX5_init_1 : decode cX5_init 1 = .ok (.invokespecial 1, 3) := by decide +kernel
theorem dX5_init_4 : decode cX5_init 4 = .ok (.aload_n 0, 1) := by decide +kernel
theorem dX5_init_5 : decode cX5_init 5 = .ok (.sipush 440, 3) := by decide +kernel
theorem dX5_init_8 : decode cX5_init 8 = .ok (.newarray .int, 2) := by decide +kernel
theorem dX5_init_10 : decode cX5_init 10 = .ok (.putfield 9, 3) := by decide +kernel
theorem dX5_init_13 : decode cX5_init 13 = .ok (.aload_n 0, 1) := by decide +kernel
theorem dX5_init_14 : decode cX5_init 14 = .ok (.iconst 0, 1) := by decide +kernel
theorem dX5_init_15 : decode cX5_init 15 = .ok (.putfield 13, 3) := by decide +kernel
theorem dX5_init_18 : decode cX5_init 18 = .ok (.return_, 1) := by decide +kernel
theorem dX5_hasRoomForFive_0 : decode cX5_hasRoomForFive 0 = .ok (.aload_n 0, 1) := by decide +kernel
theorem dX5_hasRoomForFive_1 : decode cX5_hasRoomForFive 1 = .ok (.getfield 13, 3) := by decide +kernel
theorem dX5_hasRoomForFive_4 : decode cX5_hasRoomForFive 4 = .ok (.bipush 20, 2) := by decide +kernel
theorem dX5_hasRoomForFive_6 : decode cX5_hasRoomForFive 6 = .ok (.iadd, 1) := by decide +kernel
