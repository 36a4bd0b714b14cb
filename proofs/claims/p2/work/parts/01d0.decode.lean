theorem dX0_init_0 : decode cX0_init 0 = .ok (.aload_n 0, 1) := by decide +kernel
theorem dX0_init_1 : decode cX0_init 1 = .ok (.invokespecial 3, 3) := by decide +kernel
theorem dX0_init_4 : decode cX0_init 4 = .ok (.aload_n 0, 1) := by decide +kernel
theorem dX0_init_5 : decode cX0_init 5 = .ok (.iconst 0, 1) := by decide +kernel
theorem dX0_init_6 : decode cX0_init 6 = .ok (.putfield 11, 3) := by decide +kernel
theorem dX0_init_9 : decode cX0_init 9 = .ok (.aload_n 0, 1) := by decide +kernel
theorem dX0_init_10 : decode cX0_init 10 = .ok (.iconst (-1), 1) := by decide +kernel
theorem dX0_init_11 : decode cX0_init 11 = .ok (.putfield 15, 3) := by decide +kernel
theorem dX0_init_14 : decode cX0_init 14 = .ok (.aload_n 0, 1) := by decide +kernel
theorem dX0_init_15 : decode cX0_init 15 = .ok (.iconst 0, 1) := by decide +kernel
theorem dX0_init_16 : decode cX0_init 16 = .ok (.putfield 18, 3) := by decide +kernel
theorem dX0_init_19 : decode cX0_init 19 = .ok (.aload_n 0, 1) := by decide +kernel
theorem dX0_init_20 : decode cX0_init 20 = .ok (.iconst 0, 1) := by decide +kernel
theorem dX0_init_21 : decode cX0_init 21 = .ok (.putfield 21, 3) := by decide +kernel
theorem dX0_init_24 : decode cX0_init 24 = .ok (.aload_n 0, 1) := by decide +kernel
theorem dX0_init_25 : decode cX0_init 25 = .ok (.iconst 0, 1) := by decide +kernel
theorem dX0_init_26 : decode cX0_init 26 = .ok (.putfield 24, 3) := by decide +kernel
theorem dX0_init_29 : decode cX0_init 29 = .ok (.aload_n 0, 1) := by decide +kernel
theorem dX0_init_30 : decode cX0_init 30 = .ok (.iconst 0, 1) := by decide +kernel
theorem dX0_init_31 : decode cX0_init 31 = .ok (.putfield 27, 3) := by decide +kernel
theorem dX0_init_34 : decode cX0_init 34 = .ok (.aload_n 0, 1) := by decide +kernel
theorem dX0_init_35 : decode cX0_init 35 = .ok (.iload_n 1, 1) := by decide +kernel
theorem dX0_init_36 : decode cX0_init 36 = .ok (.putfield 30, 3) := by decide +kernel
theorem dX0_init_39 : decode cX0_init 39 = .ok (.aload_n 0, 1) := by decide +kernel
theorem dX0_init_40 : decode cX0_init 40 = .ok (.iload_n 2, 1) := by decide +kernel
theorem dX0_init_41 : decode cX0_init 41 = .ok (.putfield 33, 3) := by decide +kernel
theorem dX0_init_44 : decode cX0_init 44 = .ok (.aload_n 0, 1) := by decide +kernel
theorem dX0_init_45 : decode cX0_init 45 = .ok (.iload_n 3, 1) := by decide +kernel
theorem dX0_init_46 : decode cX0_init 46 = .ok (.putfield 36, 3) := by decide +kernel
theorem dX0_init_49 : decode cX0_init 49 = .ok (.aload_n 0, 1) := by decide +kernel
theorem dX0_init_50 : decode cX0_init 50 = .ok (.iload 4, 2) := by decide +kernel
theorem dX0_init_52 : decode cX0_init 52 = .ok (.putfield 39, 3) := by decide +kernel
theorem dX0_init_55 : decode cX0_init 55 = .ok (.aload_n 0, 1) := by decide +kernel
theorem dX0_init_56 : decode cX0_init 56 = .ok (.iload 5, 2) := by decide +kernel
theorem dX0_init_58 : decode cX0_init 58 = .ok (.putfield 42, 3) := by decide +kernel
theorem dX0_init_61 : decode cX0_init 61 = .ok (.aload_n 0, 1) := by decide +kernel
theorem dX0_init_62 : decode cX0_init 62 = .ok (.iload 6, 2) := by decide +kernel
theorem dX0_init_64 : decode cX0_init 64 = .ok (.putfield 45, 3) := by decide +kernel
theorem dX0_init_67 : decode cX0_init 67 = .ok (.return_, 1) := by decide +kernel
theorem dX0_isWanted_0 : decode cX0_isWanted 0 = .ok (.aload_n 0, 1) := by decide +kernel
theorem dX0_isWanted_1 : decode cX0_isWanted 1 = .ok (.getfield 18, 3) := by decide +kernel
theorem dX0_isWanted_4 : decode cX0_isWanted 4 = .ok (.ifCond .le 7, 3) := by decide +kernel
theorem dX0_isWanted_7 : decode cX0_isWanted 7 = .ok (.iconst 1, 1) := by decide +kernel
theorem dX0_isWanted_8 : decode cX0_isWanted 8 = .ok (.goto 4, 3) := by decide +kernel
theorem dX0_isWanted_11 : decode cX0_isWanted 11 = .ok (.iconst 0, 1) := by decide +kernel
theorem dX0_isWanted_12 : decode cX0_isWanted 12 = .ok (.ireturn, 1) := by decide +kernel
theorem dX0_startOpening_0 : decode cX0_startOpening 0 = .ok (.aload_n 0, 1) := by decide +kernel
theorem dX0_startOpening_1 : decode cX0_startOpening 1 = .ok (.iconst 1, 1) := by decide +kernel
theorem dX0_startOpening_2 : decode cX0_startOpening 2 = .ok (.putfield 11, 3) := by decide +kernel
theorem dX0_startOpening_5 : decode cX0_startOpening 5 = .ok (.aload_n 0, 1) := by decide +kernel
theorem dX0_startOpening_6 : decode cX0_startOpening 6 = .ok (.iload_n 1, 1) := by decide +kernel
theorem dX0_startOpening_7 : decode cX0_startOpening 7 = .ok (.aload_n 0, 1) := by decide +kernel
theorem dX0_startOpening_8 : decode cX0_startOpening 8 = .ok (.getfield 33, 3) := by decide +kernel
theorem dX0_startOpening_11 : decode cX0_startOpening 11 = .ok (.iadd, 1) := by decide +kernel
theorem dX0_startOpening_12 : decode cX0_startOpening 12 = .ok (.putfield 15, 3) := by decide +kernel
theorem dX0_startOpening_15 : decode cX0_startOpening 15 = .ok (.aload_n 0, 1) := by decide +kernel
theorem dX0_startOpening_16 : decode cX0_startOpening 16 = .ok (.dup, 1) := by decide +kernel
theorem dX0_startOpening_17 : decode cX0_startOpening 17 = .ok (.getfield 24, 3) := by decide +kernel
theorem dX0_startOpening_20 : decode cX0_startOpening 20 = .ok (.iconst 1, 1) := by decide +kernel
theorem dX0_startOpening_21 : decode cX0_startOpening 21 = .ok (.iadd, 1) := by decide +kernel
theorem dX0_startOpening_22 : decode cX0_startOpening 22 = .ok (.putfield 24, 3) := by decide +kernel
theorem dX0_startOpening_25 : decode cX0_startOpening 25 = .ok (.return_, 1) := by decide +kernel
theorem dX0_startShutting_0 : decode cX0_startShutting 0 = .ok (.aload_n 0, 1) := by decide +kernel
theorem dX0_startShutting_1 : decode cX0_startShutting 1 = .ok (.iconst 3, 1) := by decide +kernel
theorem dX0_startShutting_2 : decode cX0_startShutting 2 = .ok (.putfield 11, 3) := by decide +kernel
theorem dX0_startShutting_5 : decode cX0_startShutting 5 = .ok (.aload_n 0, 1) := by decide +kernel
theorem dX0_startShutting_6 : decode cX0_startShutting 6 = .ok (.iload_n 1, 1) := by decide +kernel
theorem dX0_startShutting_7 : decode cX0_startShutting 7 = .ok (.aload_n 0, 1) := by decide +kernel
theorem dX0_startShutting_8 : decode cX0_startShutting 8 = .ok (.getfield 36, 3) := by decide +kernel
theorem dX0_startShutting_11 : decode cX0_startShutting 11 = .ok (.iadd, 1) := by decide +kernel
theorem dX0_startShutting_12 : decode cX0_startShutting 12 = .ok (.putfield 15, 3) := by decide +kernel
theorem dX0_startShutting_15 : decode cX0_startShutting 15 = .ok (.return_, 1) := by decide +kernel
theorem dX0_endTurning_0 : decode cX0_endTurning 0 = .ok (.aload_n 0, 1) := by decide +kernel
theorem dX0_endTurning_1 : decode cX0_endTurning 1 = .ok (.getfield 15, 3) := by decide +kernel
theorem dX0_endTurning_4 : decode cX0_endTurning 4 = .ok (.iload_n 1, 1) := by decide +kernel
theorem dX0_endTurning_5 : decode cX0_endTurning 5 = .ok (.if_icmp .ne 25, 3) := by decide +kernel
theorem dX0_endTurning_8 : decode cX0_endTurning 8 = .ok (.aload_n 0, 1) := by decide +kernel
theorem dX0_endTurning_9 : decode cX0_endTurning 9 = .ok (.aload_n 0, 1) := by decide +kernel
theorem dX0_endTurning_10 : decode cX0_endTurning 10 = .ok (.getfield 11, 3) := by decide +kernel
theorem dX0_endTurning_13 : decode cX0_endTurning 13 = .ok (.iconst 1, 1) := by decide +kernel
theorem dX0_endTurning_14 : decode cX0_endTurning 14 = .ok (.if_icmp .ne 7, 3) := by decide +kernel
theorem dX0_endTurning_17 : decode cX0_endTurning 17 = .ok (.iconst 2, 1) := by decide +kernel
theorem dX0_endTurning_18 : decode cX0_endTurning 18 = .ok (.goto 4, 3) := by decide +kernel
theorem dX0_endTurning_21 : decode cX0_endTurning 21 = .ok (.iconst 0, 1) := by decide +kernel
theorem dX0_endTurning_22 : decode cX0_endTurning 22 = .ok (.putfield 11, 3) := by decide +kernel
theorem dX0_endTurning_25 : decode cX0_endTurning 25 = .ok (.aload_n 0, 1) := by decide +kernel
theorem dX0_endTurning_26 : decode cX0_endTurning 26 = .ok (.iconst (-1), 1) := by decide +kernel
theorem dX0_endTurning_27 : decode cX0_endTurning 27 = .ok (.putfield 15, 3) := by decide +kernel
theorem dX0_endTurning_30 : decode cX0_endTurning 30 = .ok (.return_, 1) := by decide +kernel
theorem dX0_moveCars_0 : decode cX0_moveCars 0 = .ok (.aload_n 0, 1) := by decide +kernel
theorem dX0_moveCars_1 : decode cX0_moveCars 1 = .ok (.dup, 1) := by decide +kernel
theorem dX0_moveCars_2 : decode cX0_moveCars 2 = .ok (.getfield 21, 3) := by decide +kernel
theorem dX0_moveCars_5 : decode cX0_moveCars 5 = .ok (.aload_n 0, 1) := by decide +kernel
theorem dX0_moveCars_6 : decode cX0_moveCars 6 = .ok (.getfield 42, 3) := by decide +kernel
theorem dX0_moveCars_9 : decode cX0_moveCars 9 = .ok (.iadd, 1) := by decide +kernel
theorem dX0_moveCars_10 : decode cX0_moveCars 10 = .ok (.putfield 21, 3) := by decide +kernel
theorem dX0_moveCars_13 : decode cX0_moveCars 13 = .ok (.aload_n 0, 1) := by decide +kernel
theorem dX0_moveCars_14 : decode cX0_moveCars 14 = .ok (.getfield 11, 3) := by decide +kernel
theorem dX0_moveCars_17 : decode cX0_moveCars 17 = .ok (.ifCond .ne 23, 3) := by decide +kernel
theorem dX0_moveCars_20 : decode cX0_moveCars 20 = .ok (.aload_n 0, 1) := by decide +kernel
theorem dX0_moveCars_21 : decode cX0_moveCars 21 = .ok (.dup, 1) := by decide +kernel
theorem dX0_moveCars_22 : decode cX0_moveCars 22 = .ok (.getfield 21, 3) := by decide +kernel
theorem dX0_moveCars_25 : decode cX0_moveCars 25 = .ok (.aload_n 0, 1) := by decide +kernel
theorem dX0_moveCars_26 : decode cX0_moveCars 26 = .ok (.getfield 45, 3) := by decide +kernel
theorem dX0_moveCars_29 : decode cX0_moveCars 29 = .ok (.aload_n 0, 1) := by decide +kernel
theorem dX0_moveCars_30 : decode cX0_moveCars 30 = .ok (.getfield 21, 3) := by decide +kernel
theorem dX0_moveCars_33 : decode cX0_moveCars 33 = .ok (.invokestatic 48, 3) := by decide +kernel
theorem dX0_moveCars_36 : decode cX0_moveCars 36 = .ok (.isub, 1) := by decide +kernel
theorem dX0_moveCars_37 : decode cX0_moveCars 37 = .ok (.putfield 21, 3) := by decide +kernel
theorem dX0_moveCars_40 : decode cX0_moveCars 40 = .ok (.aload_n 0, 1) := by decide +kernel
theorem dX0_moveCars_41 : decode cX0_moveCars 41 = .ok (.dup, 1) := by decide +kernel
theorem dX0_moveCars_42 : decode cX0_moveCars 42 = .ok (.getfield 27, 3) := by decide +kernel
theorem dX0_moveCars_45 : decode cX0_moveCars 45 = .ok (.aload_n 0, 1) := by decide +kernel
theorem dX0_moveCars_46 : decode cX0_moveCars 46 = .ok (.getfield 21, 3) := by decide +kernel
theorem dX0_moveCars_49 : decode cX0_moveCars 49 = .ok (.iadd, 1) := by decide +kernel
theorem dX0_moveCars_50 : decode cX0_moveCars 50 = .ok (.putfield 27, 3) := by decide +kernel
theorem dX0_moveCars_53 : decode cX0_moveCars 53 = .ok (.return_, 1) := by decide +kernel
theorem dX0_tell_0 : decode cX0_tell 0 = .ok (.iload_n 1, 1) := by decide +kernel
theorem dX0_tell_1 : decode cX0_tell 1 = .ok (.tableswitch 69 0 5 #[39, 44, 49, 54, 59, 64], 39) := by decide +kernel
theorem dX0_tell_40 : decode cX0_tell 40 = .ok (.aload_n 0, 1) := by decide +kernel
theorem dX0_tell_41 : decode cX0_tell 41 = .ok (.getfield 11, 3) := by decide +kernel
theorem dX0_tell_44 : decode cX0_tell 44 = .ok (.ireturn, 1) := by decide +kernel
theorem dX0_tell_45 : decode cX0_tell 45 = .ok (.aload_n 0, 1) := by decide +kernel
theorem dX0_tell_46 : decode cX0_tell 46 = .ok (.getfield 15, 3) := by decide +kernel
theorem dX0_tell_49 : decode cX0_tell 49 = .ok (.ireturn, 1) := by decide +kernel
theorem dX0_tell_50 : decode cX0_tell 50 = .ok (.aload_n 0, 1) := by decide +kernel
theorem dX0_tell_51 : decode cX0_tell 51 = .ok (.getfield 18, 3) := by decide +kernel
theorem dX0_tell_54 : decode cX0_tell 54 = .ok (.ireturn, 1) := by decide +kernel
theorem dX0_tell_55 : decode cX0_tell 55 = .ok (.aload_n 0, 1) := by decide +kernel
theorem dX0_tell_56 : decode cX0_tell 56 = .ok (.getfield 21, 3) := by decide +kernel
theorem dX0_tell_59 : decode cX0_tell 59 = .ok (.ireturn, 1) := by decide +kernel
theorem dX0_tell_60 : decode cX0_tell 60 = .ok (.aload_n 0, 1) := by decide +kernel
theorem dX0_tell_61 : decode cX0_tell 61 = .ok (.getfield 24, 3) := by decide +kernel
theorem dX0_tell_64 : decode cX0_tell 64 = .ok (.ireturn, 1) := by decide +kernel
theorem dX0_tell_65 : decode cX0_tell 65 = .ok (.aload_n 0, 1) := by decide +kernel
theorem dX0_tell_66 : decode cX0_tell 66 = .ok (.getfield 27, 3) := by decide +kernel
theorem dX0_tell_69 : decode cX0_tell 69 = .ok (.ireturn, 1) := by decide +kernel
theorem dX0_tell_70 : decode cX0_tell 70 = .ok (.iconst (-1), 1) := by decide +kernel
theorem dX0_tell_71 : decode cX0_tell 71 = .ok (.ireturn, 1) := by decide +kernel
theorem dX1_init_0 : decode cX1_init 0 = .ok (.aload_n 0, 1) := by decide +kernel
theorem dX1_init_1 : decode cX1_init 1 = .ok (.invokespecial 3, 3) := by decide +kernel
theorem dX1_init_4 : decode cX1_init 4 = .ok (.aload_n 0, 1) := by decide +kernel
theorem dX1_init_5 : decode cX1_init 5 = .ok (.iconst (-1), 1) := by decide +kernel
theorem dX1_init_6 : decode cX1_init 6 = .ok (.putfield 9, 3) := by decide +kernel
theorem dX1_init_9 : decode cX1_init 9 = .ok (.aload_n 0, 1) := by decide +kernel
theorem dX1_init_10 : decode cX1_init 10 = .ok (.iconst (-1), 1) := by decide +kernel
theorem dX1_init_11 : decode cX1_init 11 = .ok (.putfield 15, 3) := by decide +kernel
theorem dX1_init_14 : decode cX1_init 14 = .ok (.aload_n 0, 1) := by decide +kernel
theorem dX1_init_15 : decode cX1_init 15 = .ok (.iload_n 1, 1) := by decide +kernel
theorem dX1_init_16 : decode cX1_init 16 = .ok (.putfield 18, 3) := by decide +kernel
theorem dX1_init_19 : decode cX1_init 19 = .ok (.return_, 1) := by decide +kernel
theorem dX1_isAtOrGoesTo_0 : decode cX1_isAtOrGoesTo 0 = .ok (.aload_n 0, 1) := by decide +kernel
theorem dX1_isAtOrGoesTo_1 : decode cX1_isAtOrGoesTo 1 = .ok (.getfield 18, 3) := by decide +kernel
theorem dX1_isAtOrGoesTo_4 : decode cX1_isAtOrGoesTo 4 = .ok (.iload_n 1, 1) := by decide +kernel
theorem dX1_isAtOrGoesTo_5 : decode cX1_isAtOrGoesTo 5 = .ok (.if_icmp .eq 11, 3) := by decide +kernel
theorem dX1_isAtOrGoesTo_8 : decode cX1_isAtOrGoesTo 8 = .ok (.aload_n 0, 1) := by decide +kernel
theorem dX1_isAtOrGoesTo_9 : decode cX1_isAtOrGoesTo 9 = .ok (.getfield 9, 3) := by decide +kernel
theorem dX1_isAtOrGoesTo_12 : decode cX1_isAtOrGoesTo 12 = .ok (.iload_n 1, 1) := by decide +kernel
theorem dX1_isAtOrGoesTo_13 : decode cX1_isAtOrGoesTo 13 = .ok (.if_icmp .ne 7, 3) := by decide +kernel
theorem dX1_isAtOrGoesTo_16 : decode cX1_isAtOrGoesTo 16 = .ok (.iconst 1, 1) := by decide +kernel
theorem dX1_isAtOrGoesTo_17 : decode cX1_isAtOrGoesTo 17 = .ok (.goto 4, 3) := by decide +kernel
theorem dX1_isAtOrGoesTo_20 : decode cX1_isAtOrGoesTo 20 = .ok (.iconst 0, 1) := by decide +kernel
theorem dX1_isAtOrGoesTo_21 : decode cX1_isAtOrGoesTo 21 = .ok (.ireturn, 1) := by decide +kernel
theorem dX1_setOut_0 : decode cX1_setOut 0 = .ok (.aload_n 0, 1) := by decide +kernel
theorem dX1_setOut_1 : decode cX1_setOut 1 = .ok (.iconst (-1), 1) := by decide +kernel
theorem dX1_setOut_2 : decode cX1_setOut 2 = .ok (.putfield 18, 3) := by decide +kernel
theorem dX1_setOut_5 : decode cX1_setOut 5 = .ok (.aload_n 0, 1) := by decide +kernel
theorem dX1_setOut_6 : decode cX1_setOut 6 = .ok (.iload_n 1, 1) := by decide +kernel
theorem dX1_setOut_7 : decode cX1_setOut 7 = .ok (.putfield 9, 3) := by decide +kernel
theorem dX1_setOut_10 : decode cX1_setOut 10 = .ok (.aload_n 0, 1) := by decide +kernel
theorem dX1_setOut_11 : decode cX1_setOut 11 = .ok (.iload_n 2, 1) := by decide +kernel
theorem dX1_setOut_12 : decode cX1_setOut 12 = .ok (.putfield 15, 3) := by decide +kernel
theorem dX1_setOut_15 : decode cX1_setOut 15 = .ok (.return_, 1) := by decide +kernel
theorem dX1_arriveIn_0 : decode cX1_arriveIn 0 = .ok (.aload_n 0, 1) := by decide +kernel
theorem dX1_arriveIn_1 : decode cX1_arriveIn 1 = .ok (.getfield 9, 3) := by decide +kernel
theorem dX1_arriveIn_4 : decode cX1_arriveIn 4 = .ok (.iconst (-1), 1) := by decide +kernel
theorem dX1_arriveIn_5 : decode cX1_arriveIn 5 = .ok (.if_icmp .eq 29, 3) := by decide +kernel
theorem dX1_arriveIn_8 : decode cX1_arriveIn 8 = .ok (.aload_n 0, 1) := by decide +kernel
theorem dX1_arriveIn_9 : decode cX1_arriveIn 9 = .ok (.getfield 15, 3) := by decide +kernel
theorem dX1_arriveIn_12 : decode cX1_arriveIn 12 = .ok (.iload_n 1, 1) := by decide +kernel
theorem dX1_arriveIn_13 : decode cX1_arriveIn 13 = .ok (.if_icmp .ne 21, 3) := by decide +kernel
theorem dX1_arriveIn_16 : decode cX1_arriveIn 16 = .ok (.aload_n 0, 1) := by decide +kernel
theorem dX1_arriveIn_17 : decode cX1_arriveIn 17 = .ok (.aload_n 0, 1) := by decide +kernel
theorem dX1_arriveIn_18 : decode cX1_arriveIn 18 = .ok (.getfield 9, 3) := by decide +kernel
theorem dX1_arriveIn_21 : decode cX1_arriveIn 21 = .ok (.putfield 18, 3) := by decide +kernel
theorem dX1_arriveIn_24 : decode cX1_arriveIn 24 = .ok (.aload_n 0, 1) := by decide +kernel
theorem dX1_arriveIn_25 : decode cX1_arriveIn 25 = .ok (.iconst (-1), 1) := by decide +kernel
theorem dX1_arriveIn_26 : decode cX1_arriveIn 26 = .ok (.putfield 9, 3) := by decide +kernel
theorem dX1_arriveIn_29 : decode cX1_arriveIn 29 = .ok (.aload_n 0, 1) := by decide +kernel
theorem dX1_arriveIn_30 : decode cX1_arriveIn 30 = .ok (.iconst (-1), 1) := by decide +kernel
theorem dX1_arriveIn_31 : decode cX1_arriveIn 31 = .ok (.putfield 15, 3) := by decide +kernel
theorem dX1_arriveIn_34 : decode cX1_arriveIn 34 = .ok (.return_, 1) := by decide +kernel
set_option maxRecDepth 20000 in
theorem ggX2_init_X5_init : GoodIn wsX2_init wsX5_init := goodIn_r _ [18, 19, 2, 3, 20, 21, 22, 23, 24] (by decide +kernel) (by decide +kernel)
set_option maxRecDepth 20000 in
theorem gX2_init_X5_init_n11 : GoodIn wsX2_init (wsX5_init) := ggX2_init_X5_init
theorem dX2_init_0 : decode cX2_init 0 = .ok (.aload_n 0, 1) := by decide +kernel
theorem dX2_init_1 : decode cX2_init 1 = .ok (.invokespecial 3, 3) := by decide +kernel
theorem dX2_init_4 : decode cX2_init 4 = .ok (.aload_n 0, 1) := by decide +kernel
theorem dX2_init_5 : decode cX2_init 5 = .ok (.new 9, 3) := by decide +kernel
theorem dX2_init_8 : decode cX2_init 8 = .ok (.dup, 1) := by decide +kernel
theorem dX2_init_9 : decode cX2_init 9 = .ok (.invokespecial 11, 3) := by decide +kernel
theorem dX2_init_12 : decode cX2_init 12 = .ok (.putfield 12, 3) := by decide +kernel
theorem dX2_init_15 : decode cX2_init 15 = .ok (.aload_n 0, 1) := by decide +kernel
theorem dX2_init_16 : decode cX2_init 16 = .ok (.iconst 0, 1) := by decide +kernel
theorem dX2_init_17 : decode cX2_init 17 = .ok (.putfield 18, 3) := by decide +kernel
theorem dX2_init_20 : decode cX2_init 20 = .ok (.aload_n 0, 1) := by decide +kernel
theorem dX2_init_21 : decode cX2_init 21 = .ok (.iconst 0, 1) := by decide +kernel
theorem dX2_init_22 : decode cX2_init 22 = .ok (.putfield 22, 3) := by decide +kernel
theorem dX2_init_25 : decode cX2_init 25 = .ok (.aload_n 0, 1) := by decide +kernel
theorem dX2_init_26 : decode cX2_init 26 = .ok (.iconst 0, 1) := by decide +kernel
theorem dX2_init_27 : decode cX2_init 27 = .ok (.putfield 25, 3) := by decide +kernel
theorem dX2_init_30 : decode cX2_init 30 = .ok (.aload_n 0, 1) := by decide +kernel
theorem dX2_init_31 : decode cX2_init 31 = .ok (.iconst 0, 1) := by decide +kernel
theorem dX2_init_32 : decode cX2_init 32 = .ok (.putfield 28, 3) := by decide +kernel
theorem dX2_init_35 : decode cX2_init 35 = .ok (.aload_n 0, 1) := by decide +kernel
theorem dX2_init_36 : decode cX2_init 36 = .ok (.iconst 1, 1) := by decide +kernel
theorem dX2_init_37 : decode cX2_init 37 = .ok (.putfield 31, 3) := by decide +kernel
theorem dX2_init_40 : decode cX2_init 40 = .ok (.aload_n 0, 1) := by decide +kernel
theorem dX2_init_41 : decode cX2_init 41 = .ok (.iconst 0, 1) := by decide +kernel
theorem dX2_init_42 : decode cX2_init 42 = .ok (.putfield 34, 3) := by decide +kernel
theorem dX2_init_45 : decode cX2_init 45 = .ok (.aload_n 0, 1) := by decide +kernel
theorem dX2_init_46 : decode cX2_init 46 = .ok (.iconst 0, 1) := by decide +kernel
theorem dX2_init_47 : decode cX2_init 47 = .ok (.putfield 37, 3) := by decide +kernel
theorem dX2_init_50 : decode cX2_init 50 = .ok (.aload_n 0, 1) := by decide +kernel
theorem dX2_init_51 : decode cX2_init 51 = .ok (.iconst 0, 1) := by decide +kernel
theorem dX2_init_52 : decode cX2_init 52 = .ok (.putfield 40, 3) := by decide +kernel
theorem dX2_init_55 : decode cX2_init 55 = .ok (.aload_n 0, 1) := by decide +kernel
theorem dX2_init_56 : decode cX2_init 56 = .ok (.iconst 0, 1) := by decide +kernel
theorem dX2_init_57 : decode cX2_init 57 = .ok (.putfield 43, 3) := by decide +kernel
theorem dX2_init_60 : decode cX2_init 60 = .ok (.return_, 1) := by decide +kernel
set_option maxRecDepth 20000 in
theorem ggX2_readInto_X7_clear : GoodIn wsX2_readInto wsX7_clear := goodIn_r _ [9, 10, 11, 12, 168, 169, 170, 171, 172] (by decide +kernel) (by decide +kernel)
set_option maxRecDepth 20000 in
theorem gX2_readInto_X7_clear : GoodIn wsX2_readInto (wsV RX2 46 RX7 yX7_clear wsX7_clear) := goodIn_app (goodIn_of _ (by decide +kernel)) ggX2_readInto_X7_clear
set_option maxRecDepth 20000 in
theorem ggX2_readInto_X2_advance : GoodIn wsX2_readInto wsX2_advance := goodIn_r _ [17, 18, 19, 20, 21, 22, 23, 2, 24, 25, 26, 27, 28, 16, 29, 30, 31, 32, 33, 34, 35, 36, 37, 38, 39, 40, 41, 42, 43, 44, 45, 46, 47, 48, 49, 50, 51, 52, 53, 54, 55, 56, 57, 58, 59, 60, 61, 62, 63, 64, 65, 66, 67, 68, 69, 70, 71, 72, 73, 74, 75, 76, 77, 78, 79, 80, 81, 82, 83, 84, 85, 86, 87, 88, 89, 90, 91, 92, 93, 94, 95, 96, 97, 98, 99, 100, 101, 102, 103, 104, 158, 159, 160, 161, 162, 163, 164, 165, 166, 167, 173, 174] (by decide +kernel) (by decide +kernel)
set_option maxRecDepth 20000 in
theorem gX2_readInto_X2_advance : GoodIn wsX2_readInto (wsV RX2 51 RX2 yX2_advance wsX2_advance) := goodIn_app (goodIn_of _ (by decide +kernel)) ggX2_readInto_X2_advance
set_option maxRecDepth 20000 in
theorem ggX2_readInto_X2_takeToken : GoodIn wsX2_readInto wsX2_takeToken := goodIn_r _ [108, 26, 1, 109, 43, 110, 111, 112, 16, 113, 3, 25, 4, 114, 115, 116, 117, 118, 119, 120, 121, 122, 123, 124, 125, 126, 127, 128, 129, 130, 131, 132, 133, 8, 134, 11, 12, 135, 136, 137, 138, 139, 140, 141, 142, 10, 143, 144, 145, 146, 147, 148, 149, 150, 151, 152, 153, 154, 155, 156, 157, 158, 159, 160, 161, 162, 163, 164, 165, 166, 167, 168, 169, 170, 171, 172] (by decide +kernel) (by decide +kernel)
set_option maxRecDepth 20000 in
theorem gX2_readInto_X2_takeToken : GoodIn wsX2_readInto (wsV RX2 54 RX2 yX2_takeToken wsX2_takeToken) := goodIn_app (goodIn_of _ (by decide +kernel)) ggX2_readInto_X2_takeToken
theorem dX2_readInto_0 : decode cX2_readInto 0 = .ok (.aload_n 0, 1) := by decide +kernel
theorem dX2_readInto_1 : decode cX2_readInto 1 = .ok (.iconst 0, 1) := by decide +kernel
theorem dX2_readInto_2 : decode cX2_readInto 2 = .ok (.putfield 18, 3) := by decide +kernel
theorem dX2_readInto_5 : decode cX2_readInto 5 = .ok (.aload_n 0, 1) := by decide +kernel
theorem dX2_readInto_6 : decode cX2_readInto 6 = .ok (.iconst 0, 1) := by decide +kernel
theorem dX2_readInto_7 : decode cX2_readInto 7 = .ok (.putfield 28, 3) := by decide +kernel
theorem dX2_readInto_10 : decode cX2_readInto 10 = .ok (.aload_n 0, 1) := by decide +kernel
theorem dX2_readInto_11 : decode cX2_readInto 11 = .ok (.iconst 0, 1) := by decide +kernel
theorem dX2_readInto_12 : decode cX2_readInto 12 = .ok (.putfield 40, 3) := by decide +kernel
theorem dX2_readInto_15 : decode cX2_readInto 15 = .ok (.aload_n 0, 1) := by decide +kernel
theorem dX2_readInto_16 : decode cX2_readInto 16 = .ok (.iconst 0, 1) := by decide +kernel
theorem dX2_readInto_17 : decode cX2_readInto 17 = .ok (.putfield 43, 3) := by decide +kernel
theorem dX2_readInto_20 : decode cX2_readInto 20 = .ok (.aload_n 1, 1) := by decide +kernel
theorem dX2_readInto_21 : decode cX2_readInto 21 = .ok (.invokevirtual 46, 3) := by decide +kernel
theorem dX2_readInto_24 : decode cX2_readInto 24 = .ok (.iconst 1, 1) := by decide +kernel
theorem dX2_readInto_25 : decode cX2_readInto 25 = .ok (.istore_n 2, 1) := by decide +kernel
theorem dX2_readInto_26 : decode cX2_readInto 26 = .ok (.iconst 0, 1) := by decide +kernel
theorem dX2_readInto_27 : decode cX2_readInto 27 = .ok (.istore_n 3, 1) := by decide +kernel
theorem dX2_readInto_28 : decode cX2_readInto 28 = .ok (.iload_n 3, 1) := by decide +kernel
theorem dX2_readInto_29 : decode cX2_readInto 29 = .ok (.sipush 400, 3) := by decide +kernel
theorem dX2_readInto_32 : decode cX2_readInto 32 = .ok (.if_icmp .gt 23, 3) := by decide +kernel
theorem dX2_readInto_35 : decode cX2_readInto 35 = .ok (.iload_n 2, 1) := by decide +kernel
theorem dX2_readInto_36 : decode cX2_readInto 36 = .ok (.ifCond .eq 19, 3) := by decide +kernel
theorem dX2_readInto_39 : decode cX2_readInto 39 = .ok (.aload_n 0, 1) := by decide +kernel
theorem dX2_readInto_40 : decode cX2_readInto 40 = .ok (.invokevirtual 51, 3) := by decide +kernel
theorem dX2_readInto_43 : decode cX2_readInto 43 = .ok (.aload_n 0, 1) := by decide +kernel
theorem dX2_readInto_44 : decode cX2_readInto 44 = .ok (.aload_n 1, 1) := by decide +kernel
theorem dX2_readInto_45 : decode cX2_readInto 45 = .ok (.invokevirtual 54, 3) := by decide +kernel
theorem dX2_readInto_48 : decode cX2_readInto 48 = .ok (.istore_n 2, 1) := by decide +kernel
theorem dX2_readInto_49 : decode cX2_readInto 49 = .ok (.iinc 3 1, 3) := by decide +kernel
theorem dX2_readInto_52 : decode cX2_readInto 52 = .ok (.goto (-24), 3) := by decide +kernel
theorem dX2_readInto_55 : decode cX2_readInto 55 = .ok (.aload_n 0, 1) := by decide +kernel
theorem dX2_readInto_56 : decode cX2_readInto 56 = .ok (.getfield 40, 3) := by decide +kernel
theorem dX2_readInto_59 : decode cX2_readInto 59 = .ok (.ifCond .ne 7, 3) := by decide +kernel
theorem dX2_readInto_62 : decode cX2_readInto 62 = .ok (.iconst 1, 1) := by decide +kernel
theorem dX2_readInto_63 : decode cX2_readInto 63 = .ok (.goto 4, 3) := by decide +kernel
theorem dX2_readInto_66 : decode cX2_readInto 66 = .ok (.iconst 0, 1) := by decide +kernel
theorem dX2_readInto_67 : decode cX2_readInto 67 = .ok (.ireturn, 1) := by decide +kernel
set_option maxRecDepth 20000 in
theorem ggX2_takeToken_X2_fail : GoodIn wsX2_takeToken wsX2_fail := goodIn_r _ [9, 10, 11, 12, 61, 62, 63, 64, 65, 66, 67, 68, 69, 70] (by decide +kernel) (by decide +kernel)
set_option maxRecDepth 20000 in
theorem gX2_takeToken_X2_fail : GoodIn wsX2_takeToken (wsV RX2 58 RX2 yX2_fail wsX2_fail) := goodIn_app (goodIn_of _ (by decide +kernel)) ggX2_takeToken_X2_fail
set_option maxRecDepth 20000 in
theorem ggX2_takeToken_X2_takeWord : GoodIn wsX2_takeToken wsX2_takeWord := goodIn_r _ [16, 1, 2, 5, 6, 7, 8, 9, 10, 11, 12, 61, 62, 63, 64, 65, 66, 67, 68, 69, 70] (by decide +kernel) (by decide +kernel)
set_option maxRecDepth 20000 in
theorem gX2_takeToken_X2_takeWord : GoodIn wsX2_takeToken (wsV RX2 62 RX2 yX2_takeWord wsX2_takeWord) := goodIn_app (goodIn_of _ (by decide +kernel)) ggX2_takeToken_X2_takeWord
set_option maxRecDepth 20000 in
theorem ggX2_takeToken_X2_isNumber : GoodIn wsX2_takeToken wsX2_isNumber := goodIn_r _ [20, 1, 4, 5, 6, 7, 8, 9, 10, 11, 12, 21, 22, 23, 61, 62, 63, 64, 65, 66, 67, 68, 69, 70] (by decide +kernel) (by decide +kernel)
set_option maxRecDepth 20000 in
theorem gX2_takeToken_X2_isNumber : GoodIn wsX2_takeToken (wsV RX2 66 RX2 yX2_isNumber wsX2_isNumber) := goodIn_app (goodIn_of _ (by decide +kernel)) ggX2_takeToken_X2_isNumber
set_option maxRecDepth 20000 in
theorem ggX2_takeToken_X2_takeBridgeNumber : GoodIn wsX2_takeToken wsX2_takeBridgeNumber := goodIn_r _ [27, 28, 4, 29, 2, 5, 6, 7, 8, 9, 10, 11, 12, 30, 31, 32, 33, 34, 35, 36, 71, 72, 73, 74, 75, 61, 62, 63, 64, 65, 66, 67, 68, 69, 70] (by decide +kernel) (by decide +kernel)
set_option maxRecDepth 20000 in
theorem gX2_takeToken_X2_takeBridgeNumber : GoodIn wsX2_takeToken (wsV RX2 69 RX2 yX2_takeBridgeNumber wsX2_takeBridgeNumber) := goodIn_app (goodIn_of _ (by decide +kernel)) ggX2_takeToken_X2_takeBridgeNumber
set_option maxRecDepth 20000 in
theorem ggX2_takeToken_X2_takeSpanOrSemicolon : GoodIn wsX2_takeToken wsX2_takeSpanOrSemicolon := goodIn_r _ [40, 1, 29, 2, 13, 14, 15, 8, 16, 5, 6, 7, 9, 10, 11, 12, 41, 42, 43, 33, 44, 45, 61, 62, 63, 64, 65, 66, 67, 68, 69, 70, 71, 72, 73, 74, 75] (by decide +kernel) (by decide +kernel)
set_option maxRecDepth 20000 in
theorem gX2_takeToken_X2_takeSpanOrSemicolon : GoodIn wsX2_takeToken (wsV RX2 72 RX2 yX2_takeSpanOrSemicolon wsX2_takeSpanOrSemicolon) := goodIn_app (goodIn_of _ (by decide +kernel)) ggX2_takeToken_X2_takeSpanOrSemicolon
set_option maxRecDepth 20000 in
theorem ggX2_takeToken_X2_takeBarFrom : GoodIn wsX2_takeToken wsX2_takeBarFrom := goodIn_r _ [49, 4, 3, 2, 61, 62, 63, 64, 65, 66, 67, 68, 69, 70] (by decide +kernel) (by decide +kernel)
set_option maxRecDepth 20000 in
theorem gX2_takeToken_X2_takeBarFrom : GoodIn wsX2_takeToken (wsV RX2 75 RX2 yX2_takeBarFrom wsX2_takeBarFrom) := goodIn_app (goodIn_of _ (by decide +kernel)) ggX2_takeToken_X2_takeBarFrom
set_option maxRecDepth 20000 in
theorem ggX2_takeToken_X2_takeSpan : GoodIn wsX2_takeToken wsX2_takeSpan := goodIn_r _ [53, 29, 2, 54, 55, 56, 33, 57, 58, 45, 59, 60, 42, 43, 44, 61, 62, 63, 64, 65, 66, 67, 68, 69, 70, 71, 72, 73, 74, 75] (by decide +kernel) (by decide +kernel)
set_option maxRecDepth 20000 in
theorem gX2_takeToken_X2_takeSpan : GoodIn wsX2_takeToken (wsV RX2 79 RX2 yX2_takeSpan wsX2_takeSpan) := goodIn_app (goodIn_of _ (by decide +kernel)) ggX2_takeToken_X2_takeSpan
theorem dX2_takeToken_0 : decode cX2_takeToken 0 = .ok (.aload_n 0, 1) := by decide +kernel
theorem dX2_takeToken_1 : decode cX2_takeToken 1 = .ok (.getfield 31, 3) := by decide +kernel
theorem dX2_takeToken_4 : decode cX2_takeToken 4 = .ok (.ifCond .ne 9, 3) := by decide +kernel
theorem dX2_takeToken_7 : decode cX2_takeToken 7 = .ok (.aload_n 0, 1) := by decide +kernel
theorem dX2_takeToken_8 : decode cX2_takeToken 8 = .ok (.iconst 1, 1) := by decide +kernel
theorem dX2_takeToken_9 : decode cX2_takeToken 9 = .ok (.invokevirtual 58, 3) := by decide +kernel
theorem dX2_takeToken_12 : decode cX2_takeToken 12 = .ok (.ireturn, 1) := by decide +kernel
theorem dX2_takeToken_13 : decode cX2_takeToken 13 = .ok (.aload_n 0, 1) := by decide +kernel
theorem dX2_takeToken_14 : decode cX2_takeToken 14 = .ok (.getfield 18, 3) := by decide +kernel
theorem dX2_takeToken_17 : decode cX2_takeToken 17 = .ok (.tableswitch 164 0 5 #[39, 62, 86, 92, 116, 124], 39) := by decide +kernel
theorem dX2_takeToken_56 : decode cX2_takeToken 56 = .ok (.aload_n 0, 1) := by decide +kernel
theorem dX2_takeToken_57 : decode cX2_takeToken 57 = .ok (.getfield 31, 3) := by decide +kernel
theorem dX2_takeToken_60 : decode cX2_takeToken 60 = .ok (.iconst 1, 1) := by decide +kernel
theorem dX2_takeToken_61 : decode cX2_takeToken 61 = .ok (.if_icmp .eq 16, 3) := by decide +kernel
theorem dX2_takeToken_64 : decode cX2_takeToken 64 = .ok (.aload_n 0, 1) := by decide +kernel
theorem dX2_takeToken_65 : decode cX2_takeToken 65 = .ok (.iconst 5, 1) := by decide +kernel
theorem dX2_takeToken_66 : decode cX2_takeToken 66 = .ok (.iconst 1, 1) := by decide +kernel
theorem dX2_takeToken_67 : decode cX2_takeToken 67 = .ok (.invokevirtual 62, 3) := by decide +kernel
theorem dX2_takeToken_70 : decode cX2_takeToken 70 = .ok (.ifCond .eq 7, 3) := by decide +kernel
theorem dX2_takeToken_73 : decode cX2_takeToken 73 = .ok (.iconst 1, 1) := by decide +kernel
theorem dX2_takeToken_74 : decode cX2_takeToken 74 = .ok (.goto 4, 3) := by decide +kernel
theorem dX2_takeToken_77 : decode cX2_takeToken 77 = .ok (.iconst 0, 1) := by decide +kernel
theorem dX2_takeToken_78 : decode cX2_takeToken 78 = .ok (.ireturn, 1) := by decide +kernel
theorem dX2_takeToken_79 : decode cX2_takeToken 79 = .ok (.aload_n 0, 1) := by decide +kernel
theorem dX2_takeToken_80 : decode cX2_takeToken 80 = .ok (.iconst 0, 1) := by decide +kernel
theorem dX2_takeToken_81 : decode cX2_takeToken 81 = .ok (.bipush 7, 2) := by decide +kernel
theorem dX2_takeToken_83 : decode cX2_takeToken 83 = .ok (.invokevirtual 66, 3) := by decide +kernel
theorem dX2_takeToken_86 : decode cX2_takeToken 86 = .ok (.ifCond .eq 15, 3) := by decide +kernel
theorem dX2_takeToken_89 : decode cX2_takeToken 89 = .ok (.aload_n 0, 1) := by decide +kernel
theorem dX2_takeToken_90 : decode cX2_takeToken 90 = .ok (.aload_n 1, 1) := by decide +kernel
theorem dX2_takeToken_91 : decode cX2_takeToken 91 = .ok (.invokevirtual 69, 3) := by decide +kernel
theorem dX2_takeToken_94 : decode cX2_takeToken 94 = .ok (.ifCond .eq 7, 3) := by decide +kernel
theorem dX2_takeToken_97 : decode cX2_takeToken 97 = .ok (.iconst 1, 1) := by decide +kernel
theorem dX2_takeToken_98 : decode cX2_takeToken 98 = .ok (.goto 4, 3) := by decide +kernel
theorem dX2_takeToken_101 : decode cX2_takeToken 101 = .ok (.iconst 0, 1) := by decide +kernel
theorem dX2_takeToken_102 : decode cX2_takeToken 102 = .ok (.ireturn, 1) := by decide +kernel
theorem dX2_takeToken_103 : decode cX2_takeToken 103 = .ok (.aload_n 0, 1) := by decide +kernel
theorem dX2_takeToken_104 : decode cX2_takeToken 104 = .ok (.aload_n 1, 1) := by decide +kernel
theorem dX2_takeToken_105 : decode cX2_takeToken 105 = .ok (.invokevirtual 72, 3) := by decide +kernel
theorem dX2_takeToken_108 : decode cX2_takeToken 108 = .ok (.ireturn, 1) := by decide +kernel
theorem dX2_takeToken_109 : decode cX2_takeToken 109 = .ok (.aload_n 0, 1) := by decide +kernel
theorem dX2_takeToken_110 : decode cX2_takeToken 110 = .ok (.iconst 0, 1) := by decide +kernel
theorem dX2_takeToken_111 : decode cX2_takeToken 111 = .ok (.sipush 1440, 3) := by decide +kernel
theorem dX2_takeToken_114 : decode cX2_takeToken 114 = .ok (.invokevirtual 66, 3) := by decide +kernel
theorem dX2_takeToken_117 : decode cX2_takeToken 117 = .ok (.ifCond .eq 14, 3) := by decide +kernel
theorem dX2_takeToken_120 : decode cX2_takeToken 120 = .ok (.aload_n 0, 1) := by decide +kernel
theorem dX2_takeToken_121 : decode cX2_takeToken 121 = .ok (.invokevirtual 75, 3) := by decide +kernel
theorem dX2_takeToken_124 : decode cX2_takeToken 124 = .ok (.ifCond .eq 7, 3) := by decide +kernel
theorem dX2_takeToken_127 : decode cX2_takeToken 127 = .ok (.iconst 1, 1) := by decide +kernel
theorem dX2_takeToken_128 : decode cX2_takeToken 128 = .ok (.goto 4, 3) := by decide +kernel
theorem dX2_takeToken_131 : decode cX2_takeToken 131 = .ok (.iconst 0, 1) := by decide +kernel
theorem dX2_takeToken_132 : decode cX2_takeToken 132 = .ok (.ireturn, 1) := by decide +kernel
theorem dX2_takeToken_133 : decode cX2_takeToken 133 = .ok (.aload_n 0, 1) := by decide +kernel
theorem dX2_takeToken_134 : decode cX2_takeToken 134 = .ok (.bipush 7, 2) := by decide +kernel
theorem dX2_takeToken_136 : decode cX2_takeToken 136 = .ok (.iconst 5, 1) := by decide +kernel
theorem dX2_takeToken_137 : decode cX2_takeToken 137 = .ok (.invokevirtual 62, 3) := by decide +kernel
theorem dX2_takeToken_140 : decode cX2_takeToken 140 = .ok (.ireturn, 1) := by decide +kernel
theorem dX2_takeToken_141 : decode cX2_takeToken 141 = .ok (.aload_n 0, 1) := by decide +kernel
theorem dX2_takeToken_142 : decode cX2_takeToken 142 = .ok (.aload_n 0, 1) := by decide +kernel
theorem dX2_takeToken_143 : decode cX2_takeToken 143 = .ok (.getfield 25, 3) := by decide +kernel
theorem dX2_takeToken_146 : decode cX2_takeToken 146 = .ok (.iconst 1, 1) := by decide +kernel
theorem dX2_takeToken_147 : decode cX2_takeToken 147 = .ok (.iadd, 1) := by decide +kernel
theorem dX2_takeToken_148 : decode cX2_takeToken 148 = .ok (.sipush 1440, 3) := by decide +kernel
theorem dX2_takeToken_151 : decode cX2_takeToken 151 = .ok (.invokevirtual 66, 3) := by decide +kernel
theorem dX2_takeToken_154 : decode cX2_takeToken 154 = .ok (.ifCond .eq 25, 3) := by decide +kernel
theorem dX2_takeToken_157 : decode cX2_takeToken 157 = .ok (.aload_n 0, 1) := by decide +kernel
theorem dX2_takeToken_158 : decode cX2_takeToken 158 = .ok (.aload_n 1, 1) := by decide +kernel
theorem dX2_takeToken_159 : decode cX2_takeToken 159 = .ok (.aload_n 0, 1) := by decide +kernel
theorem dX2_takeToken_160 : decode cX2_takeToken 160 = .ok (.getfield 25, 3) := by decide +kernel
theorem dX2_takeToken_163 : decode cX2_takeToken 163 = .ok (.aload_n 0, 1) := by decide +kernel
theorem dX2_takeToken_164 : decode cX2_takeToken 164 = .ok (.getfield 37, 3) := by decide +kernel
theorem dX2_takeToken_167 : decode cX2_takeToken 167 = .ok (.iconst 1, 1) := by decide +kernel
theorem dX2_takeToken_168 : decode cX2_takeToken 168 = .ok (.isub, 1) := by decide +kernel
theorem dX2_takeToken_169 : decode cX2_takeToken 169 = .ok (.invokevirtual 79, 3) := by decide +kernel
theorem dX2_takeToken_172 : decode cX2_takeToken 172 = .ok (.ifCond .eq 7, 3) := by decide +kernel
theorem dX2_takeToken_175 : decode cX2_takeToken 175 = .ok (.iconst 1, 1) := by decide +kernel
theorem dX2_takeToken_176 : decode cX2_takeToken 176 = .ok (.goto 4, 3) := by decide +kernel
theorem dX2_takeToken_179 : decode cX2_takeToken 179 = .ok (.iconst 0, 1) := by decide +kernel
theorem dX2_takeToken_180 : decode cX2_takeToken 180 = .ok (.ireturn, 1) := by decide +kernel
theorem dX2_takeToken_181 : decode cX2_takeToken 181 = .ok (.aload_n 0, 1) := by decide +kernel
theorem dX2_takeToken_182 : decode cX2_takeToken 182 = .ok (.iconst 0, 1) := by decide +kernel
theorem dX2_takeToken_183 : decode cX2_takeToken 183 = .ok (.sipush 1440, 3) := by decide +kernel
theorem dX2_takeToken_186 : decode cX2_takeToken 186 = .ok (.invokevirtual 66, 3) := by decide +kernel
theorem dX2_takeToken_189 : decode cX2_takeToken 189 = .ok (.ifCond .eq 27, 3) := by decide +kernel
theorem dX2_takeToken_192 : decode cX2_takeToken 192 = .ok (.aload_n 0, 1) := by decide +kernel
theorem dX2_takeToken_193 : decode cX2_takeToken 193 = .ok (.aload_n 1, 1) := by decide +kernel
theorem dX2_takeToken_194 : decode cX2_takeToken 194 = .ok (.aload_n 0, 1) := by decide +kernel
theorem dX2_takeToken_195 : decode cX2_takeToken 195 = .ok (.getfield 37, 3) := by decide +kernel
theorem dX2_takeToken_198 : decode cX2_takeToken 198 = .ok (.iconst 2, 1) := by decide +kernel
theorem dX2_takeToken_199 : decode cX2_takeToken 199 = .ok (.isub, 1) := by decide +kernel
theorem dX2_takeToken_200 : decode cX2_takeToken 200 = .ok (.aload_n 0, 1) := by decide +kernel
theorem dX2_takeToken_201 : decode cX2_takeToken 201 = .ok (.getfield 37, 3) := by decide +kernel
theorem dX2_takeToken_204 : decode cX2_takeToken 204 = .ok (.iconst 2, 1) := by decide +kernel
theorem dX2_takeToken_205 : decode cX2_takeToken 205 = .ok (.iadd, 1) := by decide +kernel
theorem dX2_takeToken_206 : decode cX2_takeToken 206 = .ok (.invokevirtual 79, 3) := by decide +kernel
theorem dX2_takeToken_209 : decode cX2_takeToken 209 = .ok (.ifCond .eq 7, 3) := by decide +kernel
theorem dX2_takeToken_212 : decode cX2_takeToken 212 = .ok (.iconst 1, 1) := by decide +kernel
theorem dX2_takeToken_213 : decode cX2_takeToken 213 = .ok (.goto 4, 3) := by decide +kernel
theorem dX2_takeToken_216 : decode cX2_takeToken 216 = .ok (.iconst 0, 1) := by decide +kernel
theorem dX2_takeToken_217 : decode cX2_takeToken 217 = .ok (.ireturn, 1) := by decide +kernel
set_option maxRecDepth 20000 in
theorem ggX2_takeWord_X2_fail : GoodIn wsX2_takeWord wsX2_fail := goodIn_r _ [7, 8, 9, 10, 11, 12, 13, 14, 15, 16, 17, 18, 19, 20] (by decide +kernel) (by decide +kernel)
set_option maxRecDepth 20000 in
theorem gX2_takeWord_X2_fail : GoodIn wsX2_takeWord (wsV RX2 58 RX2 yX2_fail wsX2_fail) := goodIn_app (goodIn_of _ (by decide +kernel)) ggX2_takeWord_X2_fail
theorem dX2_takeWord_0 : decode cX2_takeWord 0 = .ok (.aload_n 0, 1) := by decide +kernel
theorem dX2_takeWord_1 : decode cX2_takeWord 1 = .ok (.getfield 31, 3) := by decide +kernel
theorem dX2_takeWord_4 : decode cX2_takeWord 4 = .ok (.iload_n 1, 1) := by decide +kernel
theorem dX2_takeWord_5 : decode cX2_takeWord 5 = .ok (.if_icmp .eq 9, 3) := by decide +kernel
theorem dX2_takeWord_8 : decode cX2_takeWord 8 = .ok (.aload_n 0, 1) := by decide +kernel
theorem dX2_takeWord_9 : decode cX2_takeWord 9 = .ok (.iconst 2, 1) := by decide +kernel
theorem dX2_takeWord_10 : decode cX2_takeWord 10 = .ok (.invokevirtual 58, 3) := by decide +kernel
theorem dX2_takeWord_13 : decode cX2_takeWord 13 = .ok (.ireturn, 1) := by decide +kernel
theorem dX2_takeWord_14 : decode cX2_takeWord 14 = .ok (.aload_n 0, 1) := by decide +kernel
theorem dX2_takeWord_15 : decode cX2_takeWord 15 = .ok (.iload_n 2, 1) := by decide +kernel
theorem dX2_takeWord_16 : decode cX2_takeWord 16 = .ok (.putfield 18, 3) := by decide +kernel
theorem dX2_takeWord_19 : decode cX2_takeWord 19 = .ok (.iconst 1, 1) := by decide +kernel
theorem dX2_takeWord_20 : decode cX2_takeWord 20 = .ok (.ireturn, 1) := by decide +kernel
set_option maxRecDepth 20000 in
theorem ggX2_isNumber_X2_fail : GoodIn wsX2_isNumber wsX2_fail := goodIn_r _ [7, 8, 9, 10, 14, 15, 16, 17, 18, 19, 20, 21, 22, 23] (by decide +kernel) (by decide +kernel)
set_option maxRecDepth 20000 in
theorem gX2_isNumber_X2_fail : GoodIn wsX2_isNumber (wsV RX2 58 RX2 yX2_fail wsX2_fail) := goodIn_app (goodIn_of _ (by decide +kernel)) ggX2_isNumber_X2_fail
set_option maxRecDepth 20000 in
theorem ggX2_isNumber_X8_isWithin : GoodIn wsX2_isNumber wsX8_isWithin := goodIn_r _ [13] (by decide +kernel) (by decide +kernel)
set_option maxRecDepth 20000 in
theorem gX2_isNumber_X8_isWithin_n83 : GoodIn wsX2_isNumber (wsX8_isWithin) := ggX2_isNumber_X8_isWithin
theorem dX2_isNumber_0 : decode cX2_isNumber 0 = .ok (.aload_n 0, 1) := by decide +kernel
theorem dX2_isNumber_1 : decode cX2_isNumber 1 = .ok (.getfield 31, 3) := by decide +kernel
theorem dX2_isNumber_4 : decode cX2_isNumber 4 = .ok (.iconst 4, 1) := by decide +kernel
theorem dX2_isNumber_5 : decode cX2_isNumber 5 = .ok (.if_icmp .eq 9, 3) := by decide +kernel
theorem dX2_isNumber_8 : decode cX2_isNumber 8 = .ok (.aload_n 0, 1) := by decide +kernel
theorem dX2_isNumber_9 : decode cX2_isNumber 9 = .ok (.iconst 2, 1) := by decide +kernel
theorem dX2_isNumber_10 : decode cX2_isNumber 10 = .ok (.invokevirtual 58, 3) := by decide +kernel
theorem dX2_isNumber_13 : decode cX2_isNumber 13 = .ok (.ireturn, 1) := by decide +kernel
theorem dX2_isNumber_14 : decode cX2_isNumber 14 = .ok (.aload_n 0, 1) := by decide +kernel
theorem dX2_isNumber_15 : decode cX2_isNumber 15 = .ok (.getfield 37, 3) := by decide +kernel
theorem dX2_isNumber_18 : decode cX2_isNumber 18 = .ok (.iload_n 1, 1) := by decide +kernel
theorem dX2_isNumber_19 : decode cX2_isNumber 19 = .ok (.iload_n 2, 1) := by decide +kernel
theorem dX2_isNumber_20 : decode cX2_isNumber 20 = .ok (.invokestatic 83, 3) := by decide +kernel
theorem dX2_isNumber_23 : decode cX2_isNumber 23 = .ok (.ifCond .ne 11, 3) := by decide +kernel
theorem dX2_isNumber_26 : decode cX2_isNumber 26 = .ok (.aload_n 0, 1) := by decide +kernel
theorem dX2_isNumber_27 : decode cX2_isNumber 27 = .ok (.iconst 3, 1) := by decide +kernel
theorem dX2_isNumber_28 : decode cX2_isNumber 28 = .ok (.invokevirtual 58, 3) := by decide +kernel
theorem dX2_isNumber_31 : decode cX2_isNumber 31 = .ok (.ifCond .eq 7, 3) := by decide +kernel
theorem dX2_isNumber_34 : decode cX2_isNumber 34 = .ok (.iconst 1, 1) := by decide +kernel
theorem dX2_isNumber_35 : decode cX2_isNumber 35 = .ok (.goto 4, 3) := by decide +kernel
theorem dX2_isNumber_38 : decode cX2_isNumber 38 = .ok (.iconst 0, 1) := by decide +kernel
theorem dX2_isNumber_39 : decode cX2_isNumber 39 = .ok (.ireturn, 1) := by decide +kernel
set_option maxRecDepth 20000 in
theorem ggX2_takeBridgeNumber_X2_fail : GoodIn wsX2_takeBridgeNumber wsX2_fail := goodIn_r _ [9, 10, 11, 12, 25, 26, 27, 28, 29, 30, 31, 32, 33, 34] (by decide +kernel) (by decide +kernel)
set_option maxRecDepth 20000 in
theorem gX2_takeBridgeNumber_X2_fail : GoodIn wsX2_takeBridgeNumber (wsV RX2 58 RX2 yX2_fail wsX2_fail) := goodIn_app (goodIn_of _ (by decide +kernel)) ggX2_takeBridgeNumber_X2_fail
set_option maxRecDepth 20000 in
theorem ggX2_takeBridgeNumber_X7_tellOf : GoodIn wsX2_takeBridgeNumber wsX7_tellOf := goodIn_r _ [17, 18, 19, 20, 21, 22, 23, 24] (by decide +kernel) (by decide +kernel)
set_option maxRecDepth 20000 in
theorem gX2_takeBridgeNumber_X7_tellOf : GoodIn wsX2_takeBridgeNumber (wsV RX2 91 RX7 yX7_tellOf wsX7_tellOf) := goodIn_app (goodIn_of _ (by decide +kernel)) ggX2_takeBridgeNumber_X7_tellOf
theorem dX2_takeBridgeNumber_0 : decode cX2_takeBridgeNumber 0 = .ok (.aload_n 1, 1) := by decide +kernel
theorem dX2_takeBridgeNumber_1 : decode cX2_takeBridgeNumber 1 = .ok (.getfield 87, 3) := by decide +kernel
theorem dX2_takeBridgeNumber_4 : decode cX2_takeBridgeNumber 4 = .ok (.aload_n 0, 1) := by decide +kernel
theorem dX2_takeBridgeNumber_5 : decode cX2_takeBridgeNumber 5 = .ok (.getfield 37, 3) := by decide +kernel
theorem dX2_takeBridgeNumber_8 : decode cX2_takeBridgeNumber 8 = .ok (.baload, 1) := by decide +kernel
theorem dX2_takeBridgeNumber_9 : decode cX2_takeBridgeNumber 9 = .ok (.ifCond .eq 9, 3) := by decide +kernel
theorem dX2_takeBridgeNumber_12 : decode cX2_takeBridgeNumber 12 = .ok (.aload_n 0, 1) := by decide +kernel
theorem dX2_takeBridgeNumber_13 : decode cX2_takeBridgeNumber 13 = .ok (.iconst 4, 1) := by decide +kernel
theorem dX2_takeBridgeNumber_14 : decode cX2_takeBridgeNumber 14 = .ok (.invokevirtual 58, 3) := by decide +kernel
theorem dX2_takeBridgeNumber_17 : decode cX2_takeBridgeNumber 17 = .ok (.ireturn, 1) := by decide +kernel
theorem dX2_takeBridgeNumber_18 : decode cX2_takeBridgeNumber 18 = .ok (.aload_n 1, 1) := by decide +kernel
theorem dX2_takeBridgeNumber_19 : decode cX2_takeBridgeNumber 19 = .ok (.aload_n 0, 1) := by decide +kernel
theorem dX2_takeBridgeNumber_20 : decode cX2_takeBridgeNumber 20 = .ok (.getfield 37, 3) := by decide +kernel
theorem dX2_takeBridgeNumber_23 : decode cX2_takeBridgeNumber 23 = .ok (.invokevirtual 91, 3) := by decide +kernel
theorem dX2_takeBridgeNumber_26 : decode cX2_takeBridgeNumber 26 = .ok (.aload_n 0, 1) := by decide +kernel
theorem dX2_takeBridgeNumber_27 : decode cX2_takeBridgeNumber 27 = .ok (.aload_n 0, 1) := by decide +kernel
theorem dX2_takeBridgeNumber_28 : decode cX2_takeBridgeNumber 28 = .ok (.getfield 37, 3) := by decide +kernel
theorem dX2_takeBridgeNumber_31 : decode cX2_takeBridgeNumber 31 = .ok (.putfield 22, 3) := by decide +kernel
theorem dX2_takeBridgeNumber_34 : decode cX2_takeBridgeNumber 34 = .ok (.aload_n 0, 1) := by decide +kernel
theorem dX2_takeBridgeNumber_35 : decode cX2_takeBridgeNumber 35 = .ok (.iconst 2, 1) := by decide +kernel
theorem dX2_takeBridgeNumber_36 : decode cX2_takeBridgeNumber 36 = .ok (.putfield 18, 3) := by decide +kernel
theorem dX2_takeBridgeNumber_39 : decode cX2_takeBridgeNumber 39 = .ok (.iconst 1, 1) := by decide +kernel
theorem dX2_takeBridgeNumber_40 : decode cX2_takeBridgeNumber 40 = .ok (.ireturn, 1) := by decide +kernel
set_option maxRecDepth 20000 in
theorem ggX2_takeSpanOrSemicolon_X2_takeWord : GoodIn wsX2_takeSpanOrSemicolon wsX2_takeWord := goodIn_r _ [8, 1, 3, 9, 10, 11, 7, 12, 13, 14, 15, 22, 23, 24, 25, 26, 27, 28, 29, 30, 31] (by decide +kernel) (by decide +kernel)
set_option maxRecDepth 20000 in
theorem gX2_takeSpanOrSemicolon_X2_takeWord : GoodIn wsX2_takeSpanOrSemicolon (wsV RX2 62 RX2 yX2_takeWord wsX2_takeWord) := goodIn_app (goodIn_of _ (by decide +kernel)) ggX2_takeSpanOrSemicolon_X2_takeWord
set_option maxRecDepth 20000 in
theorem ggX2_takeSpanOrSemicolon_X7_isFull : GoodIn wsX2_takeSpanOrSemicolon wsX7_isFull := goodIn_r _ [20, 21, 32, 33, 34, 35, 36] (by decide +kernel) (by decide +kernel)
set_option maxRecDepth 20000 in
theorem gX2_takeSpanOrSemicolon_X7_isFull : GoodIn wsX2_takeSpanOrSemicolon (wsV RX2 95 RX7 yX7_isFull wsX7_isFull) := goodIn_app (goodIn_of _ (by decide +kernel)) ggX2_takeSpanOrSemicolon_X7_isFull
set_option maxRecDepth 20000 in
theorem ggX2_takeSpanOrSemicolon_X2_fail : GoodIn wsX2_takeSpanOrSemicolon wsX2_fail := goodIn_r _ [12, 13, 14, 15, 22, 23, 24, 25, 26, 27, 28, 29, 30, 31] (by decide +kernel) (by decide +kernel)
set_option maxRecDepth 20000 in
theorem gX2_takeSpanOrSemicolon_X2_fail : GoodIn wsX2_takeSpanOrSemicolon (wsV RX2 58 RX2 yX2_fail wsX2_fail) := goodIn_app (goodIn_of _ (by decide +kernel)) ggX2_takeSpanOrSemicolon_X2_fail
theorem dX2_takeSpanOrSemicolon_0 : decode cX2_takeSpanOrSemicolon 0 = .ok (.aload_n 0, 1) := by decide +kernel
theorem dX2_takeSpanOrSemicolon_1 : decode cX2_takeSpanOrSemicolon 1 = .ok (.getfield 31, 3) := by decide +kernel
theorem dX2_takeSpanOrSemicolon_4 : decode cX2_takeSpanOrSemicolon 4 = .ok (.bipush 6, 2) := by decide +kernel
theorem dX2_takeSpanOrSemicolon_6 : decode cX2_takeSpanOrSemicolon 6 = .ok (.if_icmp .eq 19, 3) := by decide +kernel
theorem dX2_takeSpanOrSemicolon_9 : decode cX2_takeSpanOrSemicolon 9 = .ok (.aload_n 0, 1) := by decide +kernel
theorem dX2_takeSpanOrSemicolon_10 : decode cX2_takeSpanOrSemicolon 10 = .ok (.getfield 31, 3) := by decide +kernel
theorem dX2_takeSpanOrSemicolon_13 : decode cX2_takeSpanOrSemicolon 13 = .ok (.bipush 8, 2) := by decide +kernel
theorem dX2_takeSpanOrSemicolon_15 : decode cX2_takeSpanOrSemicolon 15 = .ok (.if_icmp .eq 10, 3) := by decide +kernel
theorem dX2_takeSpanOrSemicolon_18 : decode cX2_takeSpanOrSemicolon 18 = .ok (.aload_n 0, 1) := by decide +kernel
theorem dX2_takeSpanOrSemicolon_19 : decode cX2_takeSpanOrSemicolon 19 = .ok (.iconst 3, 1) := by decide +kernel
theorem dX2_takeSpanOrSemicolon_20 : decode cX2_takeSpanOrSemicolon 20 = .ok (.iconst 0, 1) := by decide +kernel
theorem dX2_takeSpanOrSemicolon_21 : decode cX2_takeSpanOrSemicolon 21 = .ok (.invokevirtual 62, 3) := by decide +kernel
theorem dX2_takeSpanOrSemicolon_24 : decode cX2_takeSpanOrSemicolon 24 = .ok (.ireturn, 1) := by decide +kernel
theorem dX2_takeSpanOrSemicolon_25 : decode cX2_takeSpanOrSemicolon 25 = .ok (.aload_n 1, 1) := by decide +kernel
theorem dX2_takeSpanOrSemicolon_26 : decode cX2_takeSpanOrSemicolon 26 = .ok (.aload_n 0, 1) := by decide +kernel
theorem dX2_takeSpanOrSemicolon_27 : decode cX2_takeSpanOrSemicolon 27 = .ok (.getfield 22, 3) := by decide +kernel
theorem dX2_takeSpanOrSemicolon_30 : decode cX2_takeSpanOrSemicolon 30 = .ok (.invokevirtual 95, 3) := by decide +kernel
theorem dX2_takeSpanOrSemicolon_33 : decode cX2_takeSpanOrSemicolon 33 = .ok (.ifCond .eq 9, 3) := by decide +kernel
theorem dX2_takeSpanOrSemicolon_36 : decode cX2_takeSpanOrSemicolon 36 = .ok (.aload_n 0, 1) := by decide +kernel
theorem dX2_takeSpanOrSemicolon_37 : decode cX2_takeSpanOrSemicolon 37 = .ok (.iconst 4, 1) := by decide +kernel
theorem dX2_takeSpanOrSemicolon_38 : decode cX2_takeSpanOrSemicolon 38 = .ok (.invokevirtual 58, 3) := by decide +kernel
theorem dX2_takeSpanOrSemicolon_41 : decode cX2_takeSpanOrSemicolon 41 = .ok (.ireturn, 1) := by decide +kernel
theorem dX2_takeSpanOrSemicolon_42 : decode cX2_takeSpanOrSemicolon 42 = .ok (.aload_n 0, 1) := by decide +kernel
theorem dX2_takeSpanOrSemicolon_43 : decode cX2_takeSpanOrSemicolon 43 = .ok (.aload_n 0, 1) := by decide +kernel
theorem dX2_takeSpanOrSemicolon_44 : decode cX2_takeSpanOrSemicolon 44 = .ok (.getfield 31, 3) := by decide +kernel
theorem dX2_takeSpanOrSemicolon_47 : decode cX2_takeSpanOrSemicolon 47 = .ok (.bipush 6, 2) := by decide +kernel
theorem dX2_takeSpanOrSemicolon_49 : decode cX2_takeSpanOrSemicolon 49 = .ok (.if_icmp .ne 7, 3) := by decide +kernel
theorem dX2_takeSpanOrSemicolon_52 : decode cX2_takeSpanOrSemicolon 52 = .ok (.iconst 3, 1) := by decide +kernel
theorem dX2_takeSpanOrSemicolon_53 : decode cX2_takeSpanOrSemicolon 53 = .ok (.goto 5, 3) := by decide +kernel
theorem dX2_takeSpanOrSemicolon_56 : decode cX2_takeSpanOrSemicolon 56 = .ok (.bipush 6, 2) := by decide +kernel
theorem dX2_takeSpanOrSemicolon_58 : decode cX2_takeSpanOrSemicolon 58 = .ok (.putfield 18, 3) := by decide +kernel
theorem dX2_takeSpanOrSemicolon_61 : decode cX2_takeSpanOrSemicolon 61 = .ok (.iconst 1, 1) := by decide +kernel
theorem dX2_takeSpanOrSemicolon_62 : decode cX2_takeSpanOrSemicolon 62 = .ok (.ireturn, 1) := by decide +kernel
theorem dX2_takeBarFrom_0 : decode cX2_takeBarFrom 0 = .ok (.aload_n 0, 1) := by decide +kernel
theorem dX2_takeBarFrom_1 : decode cX2_takeBarFrom 1 = .ok (.aload_n 0, 1) := by decide +kernel
theorem dX2_takeBarFrom_2 : decode cX2_takeBarFrom 2 = .ok (.getfield 37, 3) := by decide +kernel
theorem dX2_takeBarFrom_5 : decode cX2_takeBarFrom 5 = .ok (.putfield 25, 3) := by decide +kernel
theorem dX2_takeBarFrom_8 : decode cX2_takeBarFrom 8 = .ok (.aload_n 0, 1) := by decide +kernel
theorem dX2_takeBarFrom_9 : decode cX2_takeBarFrom 9 = .ok (.iconst 4, 1) := by decide +kernel
theorem dX2_takeBarFrom_10 : decode cX2_takeBarFrom 10 = .ok (.putfield 18, 3) := by decide +kernel
theorem dX2_takeBarFrom_13 : decode cX2_takeBarFrom 13 = .ok (.iconst 1, 1) := by decide +kernel
theorem dX2_takeBarFrom_14 : decode cX2_takeBarFrom 14 = .ok (.ireturn, 1) := by decide +kernel
set_option maxRecDepth 20000 in
theorem ggX2_takeSpan_X7_addSpan : GoodIn wsX2_takeSpan wsX7_addSpan := goodIn_r _ [7, 8, 9, 10, 11, 12, 13, 6, 14, 25, 26, 27, 28, 29] (by decide +kernel) (by decide +kernel)
set_option maxRecDepth 20000 in
theorem gX2_takeSpan_X7_addSpan : GoodIn wsX2_takeSpan (wsV RX2 98 RX7 yX7_addSpan wsX7_addSpan) := goodIn_app (goodIn_of _ (by decide +kernel)) ggX2_takeSpan_X7_addSpan
theorem dX2_takeSpan_0 : decode cX2_takeSpan 0 = .ok (.aload_n 1, 1) := by decide +kernel
theorem dX2_takeSpan_1 : decode cX2_takeSpan 1 = .ok (.aload_n 0, 1) := by decide +kernel
theorem dX2_takeSpan_2 : decode cX2_takeSpan 2 = .ok (.getfield 22, 3) := by decide +kernel
theorem dX2_takeSpan_5 : decode cX2_takeSpan 5 = .ok (.iload_n 2, 1) := by decide +kernel
theorem dX2_takeSpan_6 : decode cX2_takeSpan 6 = .ok (.iload_n 3, 1) := by decide +kernel
theorem dX2_takeSpan_7 : decode cX2_takeSpan 7 = .ok (.invokevirtual 98, 3) := by decide +kernel
theorem dX2_takeSpan_10 : decode cX2_takeSpan 10 = .ok (.aload_n 0, 1) := by decide +kernel
theorem dX2_takeSpan_11 : decode cX2_takeSpan 11 = .ok (.iconst 2, 1) := by decide +kernel
theorem dX2_takeSpan_12 : decode cX2_takeSpan 12 = .ok (.putfield 18, 3) := by decide +kernel
theorem dX2_takeSpan_15 : decode cX2_takeSpan 15 = .ok (.iconst 1, 1) := by decide +kernel
theorem dX2_takeSpan_16 : decode cX2_takeSpan 16 = .ok (.ireturn, 1) := by decide +kernel
theorem dX2_fail_0 : decode cX2_fail 0 = .ok (.aload_n 0, 1) := by decide +kernel
theorem dX2_fail_1 : decode cX2_fail 1 = .ok (.iload_n 1, 1) := by decide +kernel
theorem dX2_fail_2 : decode cX2_fail 2 = .ok (.putfield 40, 3) := by decide +kernel
theorem dX2_fail_5 : decode cX2_fail 5 = .ok (.aload_n 0, 1) := by decide +kernel
theorem dX2_fail_6 : decode cX2_fail 6 = .ok (.aload_n 0, 1) := by decide +kernel
theorem dX2_fail_7 : decode cX2_fail 7 = .ok (.getfield 34, 3) := by decide +kernel
theorem dX2_fail_10 : decode cX2_fail 10 = .ok (.putfield 43, 3) := by decide +kernel
theorem dX2_fail_13 : decode cX2_fail 13 = .ok (.iconst 0, 1) := by decide +kernel
theorem dX2_fail_14 : decode cX2_fail 14 = .ok (.ireturn, 1) := by decide +kernel
set_option maxRecDepth 20000 in
theorem ggX2_advance_X2_isBlank : GoodIn wsX2_advance wsX2_isBlank := goodIn_r _ [14] (by decide +kernel) (by decide +kernel)
set_option maxRecDepth 20000 in
theorem gX2_advance_X2_isBlank : GoodIn wsX2_advance (va_wsS RX2 115 yX2_isBlank wsX2_isBlank) := goodIn_app (goodIn_of _ (by decide +kernel)) ggX2_advance_X2_isBlank
set_option maxRecDepth 20000 in
theorem ggX2_advance_X2_isLetter : GoodIn wsX2_advance wsX2_isLetter := goodIn_r _ [17, 18, 19, 13, 20] (by decide +kernel) (by decide +kernel)
set_option maxRecDepth 20000 in
theorem gX2_advance_X2_isLetter : GoodIn wsX2_advance (va_wsS RX2 118 yX2_isLetter wsX2_isLetter) := goodIn_app (goodIn_of _ (by decide +kernel)) ggX2_advance_X2_isLetter
set_option maxRecDepth 20000 in
theorem ggX2_advance_X2_isDigit : GoodIn wsX2_advance wsX2_isDigit := goodIn_r _ [23] (by decide +kernel) (by decide +kernel)
set_option maxRecDepth 20000 in
theorem gX2_advance_X2_isDigit : GoodIn wsX2_advance (va_wsS RX2 121 yX2_isDigit wsX2_isDigit) := goodIn_app (goodIn_of _ (by decide +kernel)) ggX2_advance_X2_isDigit
set_option maxRecDepth 20000 in
theorem ggX2_advance_X2_tokenOfRun : GoodIn wsX2_advance wsX2_tokenOfRun := goodIn_r _ [27, 9, 7, 1, 8, 28, 21, 22, 13, 23, 18, 19, 20, 29, 30, 31, 32, 33, 34, 35, 36, 37, 38, 39, 40, 41, 42, 43, 44, 45, 46, 47, 48, 49, 50, 51, 52, 53, 54, 55, 56, 57, 58, 59, 60, 61, 62, 63, 64, 65, 66, 67, 68, 69, 70, 71, 72, 73, 74, 75, 76, 77, 78, 79, 80, 81, 82, 83, 84, 85, 86, 87, 88, 89, 90, 91, 92, 93, 94, 95, 96, 97, 98, 99, 100, 101] (by decide +kernel) (by decide +kernel)
set_option maxRecDepth 20000 in
theorem gX2_advance_X2_tokenOfRun : GoodIn wsX2_advance (wsV RX2 124 RX2 yX2_tokenOfRun wsX2_tokenOfRun) := goodIn_app (goodIn_of _ (by decide +kernel)) ggX2_advance_X2_tokenOfRun
theorem dX2_advance_0 : decode cX2_advance 0 = .ok (.aload_n 0, 1) := by decide +kernel
theorem dX2_advance_1 : decode cX2_advance 1 = .ok (.getfield 12, 3) := by decide +kernel
theorem dX2_advance_4 : decode cX2_advance 4 = .ok (.getfield 102, 3) := by decide +kernel
theorem dX2_advance_7 : decode cX2_advance 7 = .ok (.sipush 400, 3) := by decide +kernel
theorem dX2_advance_10 : decode cX2_advance 10 = .ok (.invokestatic 105, 3) := by decide +kernel
theorem dX2_advance_13 : decode cX2_advance 13 = .ok (.istore_n 1, 1) := by decide +kernel
theorem dX2_advance_14 : decode cX2_advance 14 = .ok (.aload_n 0, 1) := by decide +kernel
theorem dX2_advance_15 : decode cX2_advance 15 = .ok (.getfield 28, 3) := by decide +kernel
theorem dX2_advance_18 : decode cX2_advance 18 = .ok (.iload_n 1, 1) := by decide +kernel
theorem dX2_advance_19 : decode cX2_advance 19 = .ok (.if_icmp .ge 34, 3) := by decide +kernel
theorem dX2_advance_22 : decode cX2_advance 22 = .ok (.aload_n 0, 1) := by decide +kernel
theorem dX2_advance_23 : decode cX2_advance 23 = .ok (.getfield 12, 3) := by decide +kernel
theorem dX2_advance_26 : decode cX2_advance 26 = .ok (.getfield 111, 3) := by decide +kernel
theorem dX2_advance_29 : decode cX2_advance 29 = .ok (.aload_n 0, 1) := by decide +kernel
theorem dX2_advance_30 : decode cX2_advance 30 = .ok (.getfield 28, 3) := by decide +kernel
theorem dX2_advance_33 : decode cX2_advance 33 = .ok (.iaload, 1) := by decide +kernel
theorem dX2_advance_34 : decode cX2_advance 34 = .ok (.invokestatic 115, 3) := by decide +kernel
theorem dX2_advance_37 : decode cX2_advance 37 = .ok (.ifCond .eq 16, 3) := by decide +kernel
theorem dX2_advance_40 : decode cX2_advance 40 = .ok (.aload_n 0, 1) := by decide +kernel
theorem dX2_advance_41 : decode cX2_advance 41 = .ok (.dup, 1) := by decide +kernel
theorem dX2_advance_42 : decode cX2_advance 42 = .ok (.getfield 28, 3) := by decide +kernel
theorem dX2_advance_45 : decode cX2_advance 45 = .ok (.iconst 1, 1) := by decide +kernel
theorem dX2_advance_46 : decode cX2_advance 46 = .ok (.iadd, 1) := by decide +kernel
theorem dX2_advance_47 : decode cX2_advance 47 = .ok (.putfield 28, 3) := by decide +kernel
theorem dX2_advance_50 : decode cX2_advance 50 = .ok (.goto (-36), 3) := by decide +kernel
theorem dX2_advance_53 : decode cX2_advance 53 = .ok (.aload_n 0, 1) := by decide +kernel
theorem dX2_advance_54 : decode cX2_advance 54 = .ok (.getfield 28, 3) := by decide +kernel
theorem dX2_advance_57 : decode cX2_advance 57 = .ok (.iload_n 1, 1) := by decide +kernel
theorem dX2_advance_58 : decode cX2_advance 58 = .ok (.if_icmp .lt 31, 3) := by decide +kernel
theorem dX2_advance_61 : decode cX2_advance 61 = .ok (.aload_n 0, 1) := by decide +kernel
theorem dX2_advance_62 : decode cX2_advance 62 = .ok (.iload_n 1, 1) := by decide +kernel
theorem dX2_advance_63 : decode cX2_advance 63 = .ok (.putfield 34, 3) := by decide +kernel
theorem dX2_advance_66 : decode cX2_advance 66 = .ok (.aload_n 0, 1) := by decide +kernel
theorem dX2_advance_67 : decode cX2_advance 67 = .ok (.aload_n 0, 1) := by decide +kernel
theorem dX2_advance_68 : decode cX2_advance 68 = .ok (.getfield 12, 3) := by decide +kernel
theorem dX2_advance_71 : decode cX2_advance 71 = .ok (.getfield 102, 3) := by decide +kernel
theorem dX2_advance_74 : decode cX2_advance 74 = .ok (.sipush 400, 3) := by decide +kernel
theorem dX2_advance_77 : decode cX2_advance 77 = .ok (.if_icmp .le 7, 3) := by decide +kernel
theorem dX2_advance_80 : decode cX2_advance 80 = .ok (.iconst 2, 1) := by decide +kernel
theorem dX2_advance_81 : decode cX2_advance 81 = .ok (.goto 4, 3) := by decide +kernel
theorem dX2_advance_84 : decode cX2_advance 84 = .ok (.iconst 1, 1) := by decide +kernel
theorem dX2_advance_85 : decode cX2_advance 85 = .ok (.putfield 31, 3) := by decide +kernel
theorem dX2_advance_88 : decode cX2_advance 88 = .ok (.return_, 1) := by decide +kernel
theorem dX2_advance_89 : decode cX2_advance 89 = .ok (.aload_n 0, 1) := by decide +kernel
theorem dX2_advance_90 : decode cX2_advance 90 = .ok (.aload_n 0, 1) := by decide +kernel
theorem dX2_advance_91 : decode cX2_advance 91 = .ok (.getfield 28, 3) := by decide +kernel
theorem dX2_advance_94 : decode cX2_advance 94 = .ok (.putfield 34, 3) := by decide +kernel
theorem dX2_advance_97 : decode cX2_advance 97 = .ok (.aload_n 0, 1) := by decide +kernel
theorem dX2_advance_98 : decode cX2_advance 98 = .ok (.getfield 12, 3) := by decide +kernel
theorem dX2_advance_101 : decode cX2_advance 101 = .ok (.getfield 111, 3) := by decide +kernel
theorem dX2_advance_104 : decode cX2_advance 104 = .ok (.aload_n 0, 1) := by decide +kernel
theorem dX2_advance_105 : decode cX2_advance 105 = .ok (.getfield 28, 3) := by decide +kernel
theorem dX2_advance_108 : decode cX2_advance 108 = .ok (.iaload, 1) := by decide +kernel
theorem dX2_advance_109 : decode cX2_advance 109 = .ok (.bipush 59, 2) := by decide +kernel
theorem dX2_advance_111 : decode cX2_advance 111 = .ok (.if_icmp .ne 19, 3) := by decide +kernel
theorem dX2_advance_114 : decode cX2_advance 114 = .ok (.aload_n 0, 1) := by decide +kernel
theorem dX2_advance_115 : decode cX2_advance 115 = .ok (.dup, 1) := by decide +kernel
theorem dX2_advance_116 : decode cX2_advance 116 = .ok (.getfield 28, 3) := by decide +kernel
theorem dX2_advance_119 : decode cX2_advance 119 = .ok (.iconst 1, 1) := by decide +kernel
theorem dX2_advance_120 : decode cX2_advance 120 = .ok (.iadd, 1) := by decide +kernel
theorem dX2_advance_121 : decode cX2_advance 121 = .ok (.putfield 28, 3) := by decide +kernel
theorem dX2_advance_124 : decode cX2_advance 124 = .ok (.aload_n 0, 1) := by decide +kernel
theorem dX2_advance_125 : decode cX2_advance 125 = .ok (.iconst 3, 1) := by decide +kernel
theorem dX2_advance_126 : decode cX2_advance 126 = .ok (.putfield 31, 3) := by decide +kernel
theorem dX2_advance_129 : decode cX2_advance 129 = .ok (.return_, 1) := by decide +kernel
theorem dX2_advance_130 : decode cX2_advance 130 = .ok (.aload_n 0, 1) := by decide +kernel
theorem dX2_advance_131 : decode cX2_advance 131 = .ok (.getfield 28, 3) := by decide +kernel
theorem dX2_advance_134 : decode cX2_advance 134 = .ok (.aload_n 0, 1) := by decide +kernel
theorem dX2_advance_135 : decode cX2_advance 135 = .ok (.getfield 12, 3) := by decide +kernel
theorem dX2_advance_138 : decode cX2_advance 138 = .ok (.getfield 102, 3) := by decide +kernel
theorem dX2_advance_141 : decode cX2_advance 141 = .ok (.if_icmp .ge 52, 3) := by decide +kernel
theorem dX2_advance_144 : decode cX2_advance 144 = .ok (.aload_n 0, 1) := by decide +kernel
theorem dX2_advance_145 : decode cX2_advance 145 = .ok (.getfield 12, 3) := by decide +kernel
theorem dX2_advance_148 : decode cX2_advance 148 = .ok (.getfield 111, 3) := by decide +kernel
theorem dX2_advance_151 : decode cX2_advance 151 = .ok (.aload_n 0, 1) := by decide +kernel
theorem dX2_advance_152 : decode cX2_advance 152 = .ok (.getfield 28, 3) := by decide +kernel
theorem dX2_advance_155 : decode cX2_advance 155 = .ok (.iaload, 1) := by decide +kernel
theorem dX2_advance_156 : decode cX2_advance 156 = .ok (.invokestatic 118, 3) := by decide +kernel
theorem dX2_advance_159 : decode cX2_advance 159 = .ok (.ifCond .ne 21, 3) := by decide +kernel
theorem dX2_advance_162 : decode cX2_advance 162 = .ok (.aload_n 0, 1) := by decide +kernel
theorem dX2_advance_163 : decode cX2_advance 163 = .ok (.getfield 12, 3) := by decide +kernel
theorem dX2_advance_166 : decode cX2_advance 166 = .ok (.getfield 111, 3) := by decide +kernel
theorem dX2_advance_169 : decode cX2_advance 169 = .ok (.aload_n 0, 1) := by decide +kernel
theorem dX2_advance_170 : decode cX2_advance 170 = .ok (.getfield 28, 3) := by decide +kernel
theorem dX2_advance_173 : decode cX2_advance 173 = .ok (.iaload, 1) := by decide +kernel
theorem dX2_advance_174 : decode cX2_advance 174 = .ok (.invokestatic 121, 3) := by decide +kernel
theorem dX2_advance_177 : decode cX2_advance 177 = .ok (.ifCond .eq 16, 3) := by decide +kernel
theorem dX2_advance_180 : decode cX2_advance 180 = .ok (.aload_n 0, 1) := by decide +kernel
theorem dX2_advance_181 : decode cX2_advance 181 = .ok (.dup, 1) := by decide +kernel
theorem dX2_advance_182 : decode cX2_advance 182 = .ok (.getfield 28, 3) := by decide +kernel
theorem dX2_advance_185 : decode cX2_advance 185 = .ok (.iconst 1, 1) := by decide +kernel
theorem dX2_advance_186 : decode cX2_advance 186 = .ok (.iadd, 1) := by decide +kernel
theorem dX2_advance_187 : decode cX2_advance 187 = .ok (.putfield 28, 3) := by decide +kernel
theorem dX2_advance_190 : decode cX2_advance 190 = .ok (.goto (-60), 3) := by decide +kernel
theorem dX2_advance_193 : decode cX2_advance 193 = .ok (.aload_n 0, 1) := by decide +kernel
theorem dX2_advance_194 : decode cX2_advance 194 = .ok (.aload_n 0, 1) := by decide +kernel
theorem dX2_advance_195 : decode cX2_advance 195 = .ok (.invokevirtual 124, 3) := by decide +kernel
theorem dX2_advance_198 : decode cX2_advance 198 = .ok (.putfield 31, 3) := by decide +kernel
theorem dX2_advance_201 : decode cX2_advance 201 = .ok (.return_, 1) := by decide +kernel
set_option maxRecDepth 20000 in
theorem ggX2_tokenOfRun_X2_isDigit : GoodIn wsX2_tokenOfRun wsX2_isDigit := goodIn_r _ [9] (by decide +kernel) (by decide +kernel)
set_option maxRecDepth 20000 in
theorem gX2_tokenOfRun_X2_isDigit : GoodIn wsX2_tokenOfRun (va_wsS RX2 121 yX2_isDigit wsX2_isDigit) := goodIn_app (goodIn_of _ (by decide +kernel)) ggX2_tokenOfRun_X2_isDigit
set_option maxRecDepth 20000 in
theorem ggX2_tokenOfRun_X2_isSmall : GoodIn wsX2_tokenOfRun wsX2_isSmall := goodIn_r _ [12] (by decide +kernel) (by decide +kernel)
set_option maxRecDepth 20000 in
theorem gX2_tokenOfRun_X2_isSmall : GoodIn wsX2_tokenOfRun (va_wsS RX2 128 yX2_isSmall wsX2_isSmall) := goodIn_app (goodIn_of _ (by decide +kernel)) ggX2_tokenOfRun_X2_isSmall
set_option maxRecDepth 20000 in
theorem ggX2_tokenOfRun_X2_numberOfRun : GoodIn wsX2_tokenOfRun wsX2_numberOfRun := goodIn_r _ [16, 1, 2, 3, 4, 74, 75, 76, 77, 78, 79, 80, 81, 82, 83, 84, 85] (by decide +kernel) (by decide +kernel)
set_option maxRecDepth 20000 in
theorem gX2_tokenOfRun_X2_numberOfRun : GoodIn wsX2_tokenOfRun (wsV RX2 131 RX2 yX2_numberOfRun wsX2_numberOfRun) := goodIn_app (goodIn_of _ (by decide +kernel)) ggX2_tokenOfRun_X2_numberOfRun
set_option maxRecDepth 20000 in
theorem ggX2_tokenOfRun_X2_wordOfRun : GoodIn wsX2_tokenOfRun wsX2_wordOfRun := goodIn_r _ [20, 21, 22, 23, 8, 24, 2, 1, 3, 4, 25, 26, 27, 28, 29, 30, 31, 32, 33, 34, 35, 36, 37, 38, 39, 40, 41, 42, 43, 44, 45, 46, 47, 48, 49, 50, 51, 52, 53, 54, 55, 56, 57, 58, 59, 60, 61, 62, 63, 64, 65, 66, 67, 68, 69, 70, 71, 72, 73, 74, 75, 76, 77, 78, 79, 80, 81, 82, 83, 84, 85] (by decide +kernel) (by decide +kernel)
set_option maxRecDepth 20000 in
theorem gX2_tokenOfRun_X2_wordOfRun : GoodIn wsX2_tokenOfRun (wsV RX2 134 RX2 yX2_wordOfRun wsX2_wordOfRun) := goodIn_app (goodIn_of _ (by decide +kernel)) ggX2_tokenOfRun_X2_wordOfRun
theorem dX2_tokenOfRun_0 : decode cX2_tokenOfRun 0 = .ok (.iconst 0, 1) := by decide +kernel
theorem dX2_tokenOfRun_1 : decode cX2_tokenOfRun 1 = .ok (.istore_n 1, 1) := by decide +kernel
theorem dX2_tokenOfRun_2 : decode cX2_tokenOfRun 2 = .ok (.iconst 0, 1) := by decide +kernel
theorem dX2_tokenOfRun_3 : decode cX2_tokenOfRun 3 = .ok (.istore_n 2, 1) := by decide +kernel
theorem dX2_tokenOfRun_4 : decode cX2_tokenOfRun 4 = .ok (.aload_n 0, 1) := by decide +kernel
theorem dX2_tokenOfRun_5 : decode cX2_tokenOfRun 5 = .ok (.getfield 34, 3) := by decide +kernel
theorem dX2_tokenOfRun_8 : decode cX2_tokenOfRun 8 = .ok (.istore_n 3, 1) := by decide +kernel
theorem dX2_tokenOfRun_9 : decode cX2_tokenOfRun 9 = .ok (.iload_n 3, 1) := by decide +kernel
theorem dX2_tokenOfRun_10 : decode cX2_tokenOfRun 10 = .ok (.aload_n 0, 1) := by decide +kernel
theorem dX2_tokenOfRun_11 : decode cX2_tokenOfRun 11 = .ok (.getfield 28, 3) := by decide +kernel
theorem dX2_tokenOfRun_14 : decode cX2_tokenOfRun 14 = .ok (.if_icmp .ge 55, 3) := by decide +kernel
theorem dX2_tokenOfRun_17 : decode cX2_tokenOfRun 17 = .ok (.iload_n 1, 1) := by decide +kernel
theorem dX2_tokenOfRun_18 : decode cX2_tokenOfRun 18 = .ok (.aload_n 0, 1) := by decide +kernel
theorem dX2_tokenOfRun_19 : decode cX2_tokenOfRun 19 = .ok (.getfield 12, 3) := by decide +kernel
theorem dX2_tokenOfRun_22 : decode cX2_tokenOfRun 22 = .ok (.getfield 111, 3) := by decide +kernel
theorem dX2_tokenOfRun_25 : decode cX2_tokenOfRun 25 = .ok (.iload_n 3, 1) := by decide +kernel
theorem dX2_tokenOfRun_26 : decode cX2_tokenOfRun 26 = .ok (.iaload, 1) := by decide +kernel
theorem dX2_tokenOfRun_27 : decode cX2_tokenOfRun 27 = .ok (.invokestatic 121, 3) := by decide +kernel
theorem dX2_tokenOfRun_30 : decode cX2_tokenOfRun 30 = .ok (.ifCond .eq 7, 3) := by decide +kernel
theorem dX2_tokenOfRun_33 : decode cX2_tokenOfRun 33 = .ok (.iconst 1, 1) := by decide +kernel
theorem dX2_tokenOfRun_34 : decode cX2_tokenOfRun 34 = .ok (.goto 4, 3) := by decide +kernel
theorem dX2_tokenOfRun_37 : decode cX2_tokenOfRun 37 = .ok (.iconst 0, 1) := by decide +kernel
theorem dX2_tokenOfRun_38 : decode cX2_tokenOfRun 38 = .ok (.iadd, 1) := by decide +kernel
theorem dX2_tokenOfRun_39 : decode cX2_tokenOfRun 39 = .ok (.istore_n 1, 1) := by decide +kernel
theorem dX2_tokenOfRun_40 : decode cX2_tokenOfRun 40 = .ok (.iload_n 2, 1) := by decide +kernel
theorem dX2_tokenOfRun_41 : decode cX2_tokenOfRun 41 = .ok (.aload_n 0, 1) := by decide +kernel
theorem dX2_tokenOfRun_42 : decode cX2_tokenOfRun 42 = .ok (.getfield 12, 3) := by decide +kernel
theorem dX2_tokenOfRun_45 : decode cX2_tokenOfRun 45 = .ok (.getfield 111, 3) := by decide +kernel
theorem dX2_tokenOfRun_48 : decode cX2_tokenOfRun 48 = .ok (.iload_n 3, 1) := by decide +kernel
theorem dX2_tokenOfRun_49 : decode cX2_tokenOfRun 49 = .ok (.iaload, 1) := by decide +kernel
theorem dX2_tokenOfRun_50 : decode cX2_tokenOfRun 50 = .ok (.invokestatic 128, 3) := by decide +kernel
theorem dX2_tokenOfRun_53 : decode cX2_tokenOfRun 53 = .ok (.ifCond .eq 7, 3) := by decide +kernel
theorem dX2_tokenOfRun_56 : decode cX2_tokenOfRun 56 = .ok (.iconst 1, 1) := by decide +kernel
theorem dX2_tokenOfRun_57 : decode cX2_tokenOfRun 57 = .ok (.goto 4, 3) := by decide +kernel
theorem dX2_tokenOfRun_60 : decode cX2_tokenOfRun 60 = .ok (.iconst 0, 1) := by decide +kernel
theorem dX2_tokenOfRun_61 : decode cX2_tokenOfRun 61 = .ok (.iadd, 1) := by decide +kernel
theorem dX2_tokenOfRun_62 : decode cX2_tokenOfRun 62 = .ok (.istore_n 2, 1) := by decide +kernel
theorem dX2_tokenOfRun_63 : decode cX2_tokenOfRun 63 = .ok (.iinc 3 1, 3) := by decide +kernel
theorem dX2_tokenOfRun_66 : decode cX2_tokenOfRun 66 = .ok (.goto (-57), 3) := by decide +kernel
theorem dX2_tokenOfRun_69 : decode cX2_tokenOfRun 69 = .ok (.aload_n 0, 1) := by decide +kernel
theorem dX2_tokenOfRun_70 : decode cX2_tokenOfRun 70 = .ok (.getfield 28, 3) := by decide +kernel
theorem dX2_tokenOfRun_73 : decode cX2_tokenOfRun 73 = .ok (.aload_n 0, 1) := by decide +kernel
theorem dX2_tokenOfRun_74 : decode cX2_tokenOfRun 74 = .ok (.getfield 34, 3) := by decide +kernel
theorem dX2_tokenOfRun_77 : decode cX2_tokenOfRun 77 = .ok (.isub, 1) := by decide +kernel
theorem dX2_tokenOfRun_78 : decode cX2_tokenOfRun 78 = .ok (.istore_n 3, 1) := by decide +kernel
theorem dX2_tokenOfRun_79 : decode cX2_tokenOfRun 79 = .ok (.iload_n 3, 1) := by decide +kernel
theorem dX2_tokenOfRun_80 : decode cX2_tokenOfRun 80 = .ok (.ifCond .ne 5, 3) := by decide +kernel
theorem dX2_tokenOfRun_83 : decode cX2_tokenOfRun 83 = .ok (.iconst 0, 1) := by decide +kernel
theorem dX2_tokenOfRun_84 : decode cX2_tokenOfRun 84 = .ok (.ireturn, 1) := by decide +kernel
theorem dX2_tokenOfRun_85 : decode cX2_tokenOfRun 85 = .ok (.iload_n 1, 1) := by decide +kernel
theorem dX2_tokenOfRun_86 : decode cX2_tokenOfRun 86 = .ok (.iload_n 3, 1) := by decide +kernel
theorem dX2_tokenOfRun_87 : decode cX2_tokenOfRun 87 = .ok (.if_icmp .ne 18, 3) := by decide +kernel
theorem dX2_tokenOfRun_90 : decode cX2_tokenOfRun 90 = .ok (.iload_n 3, 1) := by decide +kernel
theorem dX2_tokenOfRun_91 : decode cX2_tokenOfRun 91 = .ok (.iconst 4, 1) := by decide +kernel
theorem dX2_tokenOfRun_92 : decode cX2_tokenOfRun 92 = .ok (.if_icmp .gt 13, 3) := by decide +kernel
theorem dX2_tokenOfRun_95 : decode cX2_tokenOfRun 95 = .ok (.aload_n 0, 1) := by decide +kernel
theorem dX2_tokenOfRun_96 : decode cX2_tokenOfRun 96 = .ok (.aload_n 0, 1) := by decide +kernel
theorem dX2_tokenOfRun_97 : decode cX2_tokenOfRun 97 = .ok (.invokevirtual 131, 3) := by decide +kernel
theorem dX2_tokenOfRun_100 : decode cX2_tokenOfRun 100 = .ok (.putfield 37, 3) := by decide +kernel
theorem dX2_tokenOfRun_103 : decode cX2_tokenOfRun 103 = .ok (.iconst 4, 1) := by decide +kernel
theorem dX2_tokenOfRun_104 : decode cX2_tokenOfRun 104 = .ok (.ireturn, 1) := by decide +kernel
theorem dX2_tokenOfRun_105 : decode cX2_tokenOfRun 105 = .ok (.iload_n 2, 1) := by decide +kernel
theorem dX2_tokenOfRun_106 : decode cX2_tokenOfRun 106 = .ok (.iload_n 3, 1) := by decide +kernel
theorem dX2_tokenOfRun_107 : decode cX2_tokenOfRun 107 = .ok (.if_icmp .ne 10, 3) := by decide +kernel
theorem dX2_tokenOfRun_110 : decode cX2_tokenOfRun 110 = .ok (.aload_n 0, 1) := by decide +kernel
theorem dX2_tokenOfRun_111 : decode cX2_tokenOfRun 111 = .ok (.invokevirtual 134, 3) := by decide +kernel
theorem dX2_tokenOfRun_114 : decode cX2_tokenOfRun 114 = .ok (.goto 4, 3) := by decide +kernel
theorem dX2_tokenOfRun_117 : decode cX2_tokenOfRun 117 = .ok (.iconst 0, 1) := by decide +kernel
theorem dX2_tokenOfRun_118 : decode cX2_tokenOfRun 118 = .ok (.ireturn, 1) := by decide +kernel
theorem dX2_numberOfRun_0 : decode cX2_numberOfRun 0 = .ok (.iconst 0, 1) := by decide +kernel
theorem dX2_numberOfRun_1 : decode cX2_numberOfRun 1 = .ok (.istore_n 1, 1) := by decide +kernel
theorem dX2_numberOfRun_2 : decode cX2_numberOfRun 2 = .ok (.aload_n 0, 1) := by decide +kernel
theorem dX2_numberOfRun_3 : decode cX2_numberOfRun 3 = .ok (.getfield 34, 3) := by decide +kernel
theorem dX2_numberOfRun_6 : decode cX2_numberOfRun 6 = .ok (.istore_n 2, 1) := by decide +kernel
theorem dX2_numberOfRun_7 : decode cX2_numberOfRun 7 = .ok (.iload_n 2, 1) := by decide +kernel
theorem dX2_numberOfRun_8 : decode cX2_numberOfRun 8 = .ok (.aload_n 0, 1) := by decide +kernel
theorem dX2_numberOfRun_9 : decode cX2_numberOfRun 9 = .ok (.getfield 28, 3) := by decide +kernel
theorem dX2_numberOfRun_12 : decode cX2_numberOfRun 12 = .ok (.if_icmp .ge 27, 3) := by decide +kernel
theorem dX2_numberOfRun_15 : decode cX2_numberOfRun 15 = .ok (.iload_n 1, 1) := by decide +kernel
theorem dX2_numberOfRun_16 : decode cX2_numberOfRun 16 = .ok (.bipush 10, 2) := by decide +kernel
theorem dX2_numberOfRun_18 : decode cX2_numberOfRun 18 = .ok (.imul, 1) := by decide +kernel
theorem dX2_numberOfRun_19 : decode cX2_numberOfRun 19 = .ok (.aload_n 0, 1) := by decide +kernel
theorem dX2_numberOfRun_20 : decode cX2_numberOfRun 20 = .ok (.getfield 12, 3) := by decide +kernel
theorem dX2_numberOfRun_23 : decode cX2_numberOfRun 23 = .ok (.getfield 111, 3) := by decide +kernel
theorem dX2_numberOfRun_26 : decode cX2_numberOfRun 26 = .ok (.iload_n 2, 1) := by decide +kernel
theorem dX2_numberOfRun_27 : decode cX2_numberOfRun 27 = .ok (.iaload, 1) := by decide +kernel
theorem dX2_numberOfRun_28 : decode cX2_numberOfRun 28 = .ok (.iadd, 1) := by decide +kernel
theorem dX2_numberOfRun_29 : decode cX2_numberOfRun 29 = .ok (.bipush 48, 2) := by decide +kernel
theorem dX2_numberOfRun_31 : decode cX2_numberOfRun 31 = .ok (.isub, 1) := by decide +kernel
theorem dX2_numberOfRun_32 : decode cX2_numberOfRun 32 = .ok (.istore_n 1, 1) := by decide +kernel
theorem dX2_numberOfRun_33 : decode cX2_numberOfRun 33 = .ok (.iinc 2 1, 3) := by decide +kernel
theorem dX2_numberOfRun_36 : decode cX2_numberOfRun 36 = .ok (.goto (-29), 3) := by decide +kernel
theorem dX2_numberOfRun_39 : decode cX2_numberOfRun 39 = .ok (.iload_n 1, 1) := by decide +kernel
theorem dX2_numberOfRun_40 : decode cX2_numberOfRun 40 = .ok (.ireturn, 1) := by decide +kernel
set_option maxRecDepth 20000 in
theorem ggX2_wordOfRun_X2_runIs : GoodIn wsX2_wordOfRun wsX2_runIs := goodIn_r _ [5, 6, 7, 8, 9, 10, 11, 12, 13, 14, 15, 16, 17, 18, 19, 20, 21, 22, 23, 24, 25, 26, 27, 28, 29, 30, 31, 32, 33, 34, 35, 36, 37, 38, 39, 40, 41, 42, 43, 44, 45, 46, 47, 48, 49, 50, 51, 52, 53, 54, 55, 56, 57, 58, 59, 60, 61, 62, 63, 64, 65, 66, 67, 68, 69, 70] (by decide +kernel) (by decide +kernel)
set_option maxRecDepth 20000 in
theorem gX2_wordOfRun_X2_runIs : GoodIn wsX2_wordOfRun (wsV RX2 139 RX2 yX2_runIs wsX2_runIs) := goodIn_app (goodIn_of _ (by decide +kernel)) ggX2_wordOfRun_X2_runIs
theorem dX2_wordOfRun_0 : decode cX2_wordOfRun 0 = .ok (.aload_n 0, 1) := by decide +kernel
theorem dX2_wordOfRun_1 : decode cX2_wordOfRun 1 = .ok (.ldc 137, 2) := by decide +kernel
theorem dX2_wordOfRun_3 : decode cX2_wordOfRun 3 = .ok (.invokevirtual 139, 3) := by decide +kernel
theorem dX2_wordOfRun_6 : decode cX2_wordOfRun 6 = .ok (.ifCond .eq 5, 3) := by decide +kernel
theorem dX2_wordOfRun_9 : decode cX2_wordOfRun 9 = .ok (.iconst 5, 1) := by decide +kernel
theorem dX2_wordOfRun_10 : decode cX2_wordOfRun 10 = .ok (.ireturn, 1) := by decide +kernel
theorem dX2_wordOfRun_11 : decode cX2_wordOfRun 11 = .ok (.aload_n 0, 1) := by decide +kernel
theorem dX2_wordOfRun_12 : decode cX2_wordOfRun 12 = .ok (.ldc 143, 2) := by decide +kernel
theorem dX2_wordOfRun_14 : decode cX2_wordOfRun 14 = .ok (.invokevirtual 139, 3) := by decide +kernel
theorem dX2_wordOfRun_17 : decode cX2_wordOfRun 17 = .ok (.ifCond .eq 6, 3) := by decide +kernel
theorem dX2_wordOfRun_20 : decode cX2_wordOfRun 20 = .ok (.bipush 6, 2) := by decide +kernel
theorem dX2_wordOfRun_22 : decode cX2_wordOfRun 22 = .ok (.ireturn, 1) := by decide +kernel
theorem dX2_wordOfRun_23 : decode cX2_wordOfRun 23 = .ok (.aload_n 0, 1) := by decide +kernel
theorem dX2_wordOfRun_24 : decode cX2_wordOfRun 24 = .ok (.ldc 145, 2) := by decide +kernel
theorem dX2_wordOfRun_26 : decode cX2_wordOfRun 26 = .ok (.invokevirtual 139, 3) := by decide +kernel
theorem dX2_wordOfRun_29 : decode cX2_wordOfRun 29 = .ok (.ifCond .eq 6, 3) := by decide +kernel
theorem dX2_wordOfRun_32 : decode cX2_wordOfRun 32 = .ok (.bipush 7, 2) := by decide +kernel
theorem dX2_wordOfRun_34 : decode cX2_wordOfRun 34 = .ok (.ireturn, 1) := by decide +kernel
theorem dX2_wordOfRun_35 : decode cX2_wordOfRun 35 = .ok (.aload_n 0, 1) := by decide +kernel
theorem dX2_wordOfRun_36 : decode cX2_wordOfRun 36 = .ok (.ldc 147, 2) := by decide +kernel
theorem dX2_wordOfRun_38 : decode cX2_wordOfRun 38 = .ok (.invokevirtual 139, 3) := by decide +kernel
theorem dX2_wordOfRun_41 : decode cX2_wordOfRun 41 = .ok (.ifCond .eq 8, 3) := by decide +kernel
theorem dX2_wordOfRun_44 : decode cX2_wordOfRun 44 = .ok (.bipush 8, 2) := by decide +kernel
theorem dX2_wordOfRun_46 : decode cX2_wordOfRun 46 = .ok (.goto 5, 3) := by decide +kernel
theorem dX2_wordOfRun_49 : decode cX2_wordOfRun 49 = .ok (.bipush 9, 2) := by decide +kernel
theorem dX2_wordOfRun_51 : decode cX2_wordOfRun 51 = .ok (.ireturn, 1) := by decide +kernel
set_option maxRecDepth 20000 in
theorem ggX2_runIs_J0_length_8abf5 : GoodIn wsX2_runIs wsJ0_length_8abf5 := goodIn_r _ [9, 10, 11, 12, 13, 8, 14, 15, 16] (by decide +kernel) (by decide +kernel)
set_option maxRecDepth 20000 in
theorem gX2_runIs_J0_length_8abf5 : GoodIn wsX2_runIs (wsV RX2 149 RJ0 yJ0_length_8abf5 wsJ0_length_8abf5) := goodIn_app (goodIn_of _ (by decide +kernel)) ggX2_runIs_J0_length_8abf5
set_option maxRecDepth 20000 in
theorem ggX2_runIs_J0_charAt_5068e : GoodIn wsX2_runIs wsJ0_charAt_5068e := goodIn_r _ [20, 10, 21, 22, 23, 8, 24, 15, 16, 25, 26, 27, 28, 29, 30, 31, 32, 33, 34, 35, 36, 37, 38, 39, 40, 41, 42, 43, 44, 45, 46, 47, 48, 49, 50, 51, 52, 53] (by decide +kernel) (by decide +kernel)
set_option maxRecDepth 20000 in
theorem gX2_runIs_J0_charAt_5068e : GoodIn wsX2_runIs (wsV RX2 154 RJ0 yJ0_charAt_5068e wsJ0_charAt_5068e) := goodIn_app (goodIn_of _ (by decide +kernel)) ggX2_runIs_J0_charAt_5068e
theorem dX2_runIs_0 : decode cX2_runIs 0 = .ok (.aload_n 1, 1) := by decide +kernel
theorem dX2_runIs_1 : decode cX2_runIs 1 = .ok (.invokevirtual 149, 3) := by decide +kernel
theorem dX2_runIs_4 : decode cX2_runIs 4 = .ok (.aload_n 0, 1) := by decide +kernel
theorem dX2_runIs_5 : decode cX2_runIs 5 = .ok (.getfield 28, 3) := by decide +kernel
theorem dX2_runIs_8 : decode cX2_runIs 8 = .ok (.aload_n 0, 1) := by decide +kernel
theorem dX2_runIs_9 : decode cX2_runIs 9 = .ok (.getfield 34, 3) := by decide +kernel
theorem dX2_runIs_12 : decode cX2_runIs 12 = .ok (.isub, 1) := by decide +kernel
theorem dX2_runIs_13 : decode cX2_runIs 13 = .ok (.if_icmp .eq 5, 3) := by decide +kernel
theorem dX2_runIs_16 : decode cX2_runIs 16 = .ok (.iconst 0, 1) := by decide +kernel
theorem dX2_runIs_17 : decode cX2_runIs 17 = .ok (.ireturn, 1) := by decide +kernel
theorem dX2_runIs_18 : decode cX2_runIs 18 = .ok (.iconst 0, 1) := by decide +kernel
theorem dX2_runIs_19 : decode cX2_runIs 19 = .ok (.istore_n 2, 1) := by decide +kernel
theorem dX2_runIs_20 : decode cX2_runIs 20 = .ok (.iload_n 2, 1) := by decide +kernel
theorem dX2_runIs_21 : decode cX2_runIs 21 = .ok (.aload_n 1, 1) := by decide +kernel
theorem dX2_runIs_22 : decode cX2_runIs 22 = .ok (.invokevirtual 149, 3) := by decide +kernel
theorem dX2_runIs_25 : decode cX2_runIs 25 = .ok (.if_icmp .ge 33, 3) := by decide +kernel
theorem dX2_runIs_28 : decode cX2_runIs 28 = .ok (.aload_n 0, 1) := by decide +kernel
theorem dX2_runIs_29 : decode cX2_runIs 29 = .ok (.getfield 12, 3) := by decide +kernel
theorem dX2_runIs_32 : decode cX2_runIs 32 = .ok (.getfield 111, 3) := by decide +kernel
theorem dX2_runIs_35 : decode cX2_runIs 35 = .ok (.aload_n 0, 1) := by decide +kernel
theorem dX2_runIs_36 : decode cX2_runIs 36 = .ok (.getfield 34, 3) := by decide +kernel
theorem dX2_runIs_39 : decode cX2_runIs 39 = .ok (.iload_n 2, 1) := by decide +kernel
theorem dX2_runIs_40 : decode cX2_runIs 40 = .ok (.iadd, 1) := by decide +kernel
theorem dX2_runIs_41 : decode cX2_runIs 41 = .ok (.iaload, 1) := by decide +kernel
theorem dX2_runIs_42 : decode cX2_runIs 42 = .ok (.aload_n 1, 1) := by decide +kernel
theorem dX2_runIs_43 : decode cX2_runIs 43 = .ok (.iload_n 2, 1) := by decide +kernel
theorem dX2_runIs_44 : decode cX2_runIs 44 = .ok (.invokevirtual 154, 3) := by decide +kernel
theorem dX2_runIs_47 : decode cX2_runIs 47 = .ok (.if_icmp .eq 5, 3) := by decide +kernel
theorem dX2_runIs_50 : decode cX2_runIs 50 = .ok (.iconst 0, 1) := by decide +kernel
theorem dX2_runIs_51 : decode cX2_runIs 51 = .ok (.ireturn, 1) := by decide +kernel
theorem dX2_runIs_52 : decode cX2_runIs 52 = .ok (.iinc 2 1, 3) := by decide +kernel
theorem dX2_runIs_55 : decode cX2_runIs 55 = .ok (.goto (-35), 3) := by decide +kernel
theorem dX2_runIs_58 : decode cX2_runIs 58 = .ok (.iconst 1, 1) := by decide +kernel
theorem dX2_runIs_59 : decode cX2_runIs 59 = .ok (.ireturn, 1) := by decide +kernel
theorem dX2_isBlank_0 : decode cX2_isBlank 0 = .ok (.iload_n 0, 1) := by decide +kernel
theorem dX2_isBlank_1 : decode cX2_isBlank 1 = .ok (.bipush 32, 2) := by decide +kernel
theorem dX2_isBlank_3 : decode cX2_isBlank 3 = .ok (.if_icmp .eq 9, 3) := by decide +kernel
theorem dX2_isBlank_6 : decode cX2_isBlank 6 = .ok (.iload_n 0, 1) := by decide +kernel
theorem dX2_isBlank_7 : decode cX2_isBlank 7 = .ok (.bipush 10, 2) := by decide +kernel
theorem dX2_isBlank_9 : decode cX2_isBlank 9 = .ok (.if_icmp .ne 7, 3) := by decide +kernel
theorem dX2_isBlank_12 : decode cX2_isBlank 12 = .ok (.iconst 1, 1) := by decide +kernel
theorem dX2_isBlank_13 : decode cX2_isBlank 13 = .ok (.goto 4, 3) := by decide +kernel
theorem dX2_isBlank_16 : decode cX2_isBlank 16 = .ok (.iconst 0, 1) := by decide +kernel
theorem dX2_isBlank_17 : decode cX2_isBlank 17 = .ok (.ireturn, 1) := by decide +kernel
theorem dX2_isDigit_0 : decode cX2_isDigit 0 = .ok (.iload_n 0, 1) := by decide +kernel
theorem dX2_isDigit_1 : decode cX2_isDigit 1 = .ok (.bipush 48, 2) := by decide +kernel
theorem dX2_isDigit_3 : decode cX2_isDigit 3 = .ok (.if_icmp .lt 13, 3) := by decide +kernel
theorem dX2_isDigit_6 : decode cX2_isDigit 6 = .ok (.iload_n 0, 1) := by decide +kernel
theorem dX2_isDigit_7 : decode cX2_isDigit 7 = .ok (.bipush 57, 2) := by decide +kernel
theorem dX2_isDigit_9 : decode cX2_isDigit 9 = .ok (.if_icmp .gt 7, 3) := by decide +kernel
theorem dX2_isDigit_12 : decode cX2_isDigit 12 = .ok (.iconst 1, 1) := by decide +kernel
theorem dX2_isDigit_13 : decode cX2_isDigit 13 = .ok (.goto 4, 3) := by decide +kernel
theorem dX2_isDigit_16 : decode cX2_isDigit 16 = .ok (.iconst 0, 1) := by decide +kernel
theorem dX2_isDigit_17 : decode cX2_isDigit 17 = .ok (.ireturn, 1) := by decide +kernel
theorem dX2_isSmall_0 : decode cX2_isSmall 0 = .ok (.iload_n 0, 1) := by decide +kernel
theorem dX2_isSmall_1 : decode cX2_isSmall 1 = .ok (.bipush 97, 2) := by decide +kernel
theorem dX2_isSmall_3 : decode cX2_isSmall 3 = .ok (.if_icmp .lt 13, 3) := by decide +kernel
theorem dX2_isSmall_6 : decode cX2_isSmall 6 = .ok (.iload_n 0, 1) := by decide +kernel
theorem dX2_isSmall_7 : decode cX2_isSmall 7 = .ok (.bipush 122, 2) := by decide +kernel
theorem dX2_isSmall_9 : decode cX2_isSmall 9 = .ok (.if_icmp .gt 7, 3) := by decide +kernel
theorem dX2_isSmall_12 : decode cX2_isSmall 12 = .ok (.iconst 1, 1) := by decide +kernel
theorem dX2_isSmall_13 : decode cX2_isSmall 13 = .ok (.goto 4, 3) := by decide +kernel
theorem dX2_isSmall_16 : decode cX2_isSmall 16 = .ok (.iconst 0, 1) := by decide +kernel
theorem dX2_isSmall_17 : decode cX2_isSmall 17 = .ok (.ireturn, 1) := by decide +kernel
set_option maxRecDepth 20000 in
theorem ggX2_isLetter_X2_isSmall : GoodIn wsX2_isLetter wsX2_isSmall := goodIn_r _ [4] (by decide +kernel) (by decide +kernel)
set_option maxRecDepth 20000 in
theorem gX2_isLetter_X2_isSmall : GoodIn wsX2_isLetter (va_wsS RX2 128 yX2_isSmall wsX2_isSmall) := goodIn_app (goodIn_of _ (by decide +kernel)) ggX2_isLetter_X2_isSmall
theorem dX2_isLetter_0 : decode cX2_isLetter 0 = .ok (.iload_n 0, 1) := by decide +kernel
theorem dX2_isLetter_1 : decode cX2_isLetter 1 = .ok (.invokestatic 128, 3) := by decide +kernel
theorem dX2_isLetter_4 : decode cX2_isLetter 4 = .ok (.ifCond .ne 15, 3) := by decide +kernel
theorem dX2_isLetter_7 : decode cX2_isLetter 7 = .ok (.iload_n 0, 1) := by decide +kernel
theorem dX2_isLetter_8 : decode cX2_isLetter 8 = .ok (.bipush 65, 2) := by decide +kernel
theorem dX2_isLetter_10 : decode cX2_isLetter 10 = .ok (.if_icmp .lt 13, 3) := by decide +kernel
theorem dX2_isLetter_13 : decode cX2_isLetter 13 = .ok (.iload_n 0, 1) := by decide +kernel
theorem dX2_isLetter_14 : decode cX2_isLetter 14 = .ok (.bipush 90, 2) := by decide +kernel
theorem dX2_isLetter_16 : decode cX2_isLetter 16 = .ok (.if_icmp .gt 7, 3) := by decide +kernel
theorem dX2_isLetter_19 : decode cX2_isLetter 19 = .ok (.iconst 1, 1) := by decide +kernel
theorem dX2_isLetter_20 : decode cX2_isLetter 20 = .ok (.goto 4, 3) := by decide +kernel
theorem dX2_isLetter_23 : decode cX2_isLetter 23 = .ok (.iconst 0, 1) := by decide +kernel
theorem dX2_isLetter_24 : decode cX2_isLetter 24 = .ok (.ireturn, 1) := by decide +kernel
set_option maxRecDepth 20000 in
theorem ggX3_init_X6_init : GoodIn wsX3_init wsX6_init := goodIn_r _ [21, 22, 2, 3, 23, 24, 50] (by decide +kernel) (by decide +kernel)
set_option maxRecDepth 20000 in
theorem gX3_init_X6_init_n11 : GoodIn wsX3_init (wsX6_init) := ggX3_init_X6_init
set_option maxRecDepth 20000 in
theorem ggX3_init_Jx4a65c_init_da8c8 : GoodIn wsX3_init wsJx4a65c_init_da8c8 := goodIn_r _ [27, 28, 29, 30, 31, 32, 33, 34, 35, 36, 37, 38, 39, 2, 3, 58, 59, 60] (by decide +kernel) (by decide +kernel)
set_option maxRecDepth 20000 in
theorem gX3_init_Jx4a65c_init_da8c8 : GoodIn wsX3_init (wsJx4a65c_init_da8c8) := ggX3_init_Jx4a65c_init_da8c8
set_option maxRecDepth 20000 in
theorem ggX3_init_X7_init : GoodIn wsX3_init wsX7_init := goodIn_r _ [41, 42, 2, 3, 43, 23, 44, 45, 46, 47, 48, 49, 61, 62, 63, 64, 65] (by decide +kernel) (by decide +kernel)
set_option maxRecDepth 20000 in
theorem gX3_init_X7_init_n33 : GoodIn wsX3_init (wsX7_init) := ggX3_init_X7_init
theorem dX3_init_0 : decode cX3_init 0 = .ok (.aload_n 0, 1) := by decide +kernel
theorem dX3_init_1 : decode cX3_init 1 = .ok (.invokespecial 3, 3) := by decide +kernel
theorem dX3_init_4 : decode cX3_init 4 = .ok (.aload_n 0, 1) := by decide +kernel
theorem dX3_init_5 : decode cX3_init 5 = .ok (.new 9, 3) := by decide +kernel
theorem dX3_init_8 : decode cX3_init 8 = .ok (.dup, 1) := by decide +kernel
theorem dX3_init_9 : decode cX3_init 9 = .ok (.invokespecial 11, 3) := by decide +kernel
theorem dX3_init_12 : decode cX3_init 12 = .ok (.putfield 12, 3) := by decide +kernel
theorem dX3_init_15 : decode cX3_init 15 = .ok (.aload_n 0, 1) := by decide +kernel
theorem dX3_init_16 : decode cX3_init 16 = .ok (.new 18, 3) := by decide +kernel
theorem dX3_init_19 : decode cX3_init 19 = .ok (.dup, 1) := by decide +kernel
theorem dX3_init_20 : decode cX3_init 20 = .ok (.invokespecial 20, 3) := by decide +kernel
theorem dX3_init_23 : decode cX3_init 23 = .ok (.putfield 21, 3) := by decide +kernel
theorem dX3_init_26 : decode cX3_init 26 = .ok (.aload_n 0, 1) := by decide +kernel
theorem dX3_init_27 : decode cX3_init 27 = .ok (.new 18, 3) := by decide +kernel
theorem dX3_init_30 : decode cX3_init 30 = .ok (.dup, 1) := by decide +kernel
theorem dX3_init_31 : decode cX3_init 31 = .ok (.invokespecial 20, 3) := by decide +kernel
theorem dX3_init_34 : decode cX3_init 34 = .ok (.putfield 25, 3) := by decide +kernel
theorem dX3_init_37 : decode cX3_init 37 = .ok (.aload_n 0, 1) := by decide +kernel
theorem dX3_init_38 : decode cX3_init 38 = .ok (.new 18, 3) := by decide +kernel
theorem dX3_init_41 : decode cX3_init 41 = .ok (.dup, 1) := by decide +kernel
theorem dX3_init_42 : decode cX3_init 42 = .ok (.invokespecial 20, 3) := by decide +kernel
theorem dX3_init_45 : decode cX3_init 45 = .ok (.putfield 28, 3) := by decide +kernel
theorem dX3_init_48 : decode cX3_init 48 = .ok (.aload_n 0, 1) := by decide +kernel
theorem dX3_init_49 : decode cX3_init 49 = .ok (.new 31, 3) := by decide +kernel
theorem dX3_init_52 : decode cX3_init 52 = .ok (.dup, 1) := by decide +kernel
theorem dX3_init_53 : decode cX3_init 53 = .ok (.invokespecial 33, 3) := by decide +kernel
theorem dX3_init_56 : decode cX3_init 56 = .ok (.putfield 34, 3) := by decide +kernel
theorem dX3_init_59 : decode cX3_init 59 = .ok (.aload_n 0, 1) := by decide +kernel
theorem dX3_init_60 : decode cX3_init 60 = .ok (.iconst 5, 1) := by decide +kernel
theorem dX3_init_61 : decode cX3_init 61 = .ok (.putfield 38, 3) := by decide +kernel
theorem dX3_init_64 : decode cX3_init 64 = .ok (.aload_n 0, 1) := by decide +kernel
theorem dX3_init_65 : decode cX3_init 65 = .ok (.iconst 0, 1) := by decide +kernel
theorem dX3_init_66 : decode cX3_init 66 = .ok (.putfield 42, 3) := by decide +kernel
theorem dX3_init_69 : decode cX3_init 69 = .ok (.return_, 1) := by decide +kernel
set_option maxRecDepth 20000 in
theorem ggX3_doMinute_X3_bringAll : GoodIn wsX3_doMinute wsX3_bringAll := goodIn_r _ [10, 11, 12, 5, 2, 3, 1, 4, 13, 14, 15, 16, 17, 18, 19, 20, 21, 22, 23, 24, 25, 26, 27, 28, 29, 30, 31, 32, 33, 34, 35, 36, 37, 38, 39, 40, 41, 42, 43, 44, 45, 9, 46, 47, 48, 49, 50, 51, 52, 53, 54, 55, 56, 57, 58, 59, 60, 61, 62, 63, 64, 65, 66, 67, 68, 69, 182, 183, 184, 185, 186, 187, 188, 189, 190, 191, 192, 193, 194, 195, 196, 197, 198, 199, 200, 201, 202, 203, 204, 205, 206, 207, 208, 209, 210, 211, 212, 213, 214] (by decide +kernel) (by decide +kernel)
set_option maxRecDepth 20000 in
theorem gX3_doMinute_X3_bringAll : GoodIn wsX3_doMinute (wsV RX3 45 RX3 yX3_bringAll wsX3_bringAll) := goodIn_app (goodIn_of _ (by decide +kernel)) ggX3_doMinute_X3_bringAll
set_option maxRecDepth 20000 in
theorem ggX3_doMinute_Jx4a65c_size_8abf5 : GoodIn wsX3_doMinute wsJx4a65c_size_8abf5 := goodIn_r _ [17, 18, 189, 190, 191] (by decide +kernel) (by decide +kernel)
set_option maxRecDepth 20000 in
theorem gX3_doMinute_Jx4a65c_size_8abf5 : GoodIn wsX3_doMinute (wsV RX3 48 RJx4a65c yJx4a65c_size_8abf5 wsJx4a65c_size_8abf5) := goodIn_app (goodIn_of _ (by decide +kernel)) ggX3_doMinute_Jx4a65c_size_8abf5
set_option maxRecDepth 20000 in
theorem ggX3_doMinute_X3_letShipsThrough : GoodIn wsX3_doMinute wsX3_letShipsThrough := goodIn_r _ [73, 1, 4, 11, 12, 74, 5, 75, 19, 20, 21, 16, 22, 18, 23, 24, 25, 26, 27, 28, 29, 30, 31, 32, 33, 34, 35, 76, 77, 78, 66, 79, 80, 13, 14, 15, 17, 81, 82, 83, 39, 84, 41, 85, 86, 87, 88, 9, 89, 90, 91, 92, 93, 94, 95, 96, 97, 98, 99, 100, 101, 49, 102, 54, 48, 47, 103, 104, 105, 106, 107, 108, 109, 110, 111, 112, 113, 114, 115, 116, 182, 183, 184, 185, 186, 187, 188, 192, 193, 194, 195, 196, 197, 198, 199, 200, 201, 202, 203, 204, 205, 206, 207, 208, 209, 210, 211, 189, 190, 191, 215] (by decide +kernel) (by decide +kernel)
set_option maxRecDepth 20000 in
theorem gX3_doMinute_X3_letShipsThrough : GoodIn wsX3_doMinute (wsV RX3 52 RX3 yX3_letShipsThrough wsX3_letShipsThrough) := goodIn_app (goodIn_of _ (by decide +kernel)) ggX3_doMinute_X3_letShipsThrough
set_option maxRecDepth 20000 in
theorem ggX3_doMinute_X3_countWaits : GoodIn wsX3_doMinute wsX3_countWaits := goodIn_r _ [120, 11, 12, 48, 121, 13, 14, 15, 16, 17, 18, 19, 20, 21, 22, 23, 24, 25, 26, 27, 28, 29, 30, 31, 32, 33, 34, 35, 182, 183, 184, 185, 186, 187, 188, 192, 193, 194, 195, 196, 197, 198, 199, 189, 190, 191] (by decide +kernel) (by decide +kernel)
set_option maxRecDepth 20000 in
theorem gX3_doMinute_X3_countWaits : GoodIn wsX3_doMinute (wsV RX3 56 RX3 yX3_countWaits wsX3_countWaits) := goodIn_app (goodIn_of _ (by decide +kernel)) ggX3_doMinute_X3_countWaits
set_option maxRecDepth 20000 in
theorem ggX3_doMinute_X3_turnBridge : GoodIn wsX3_doMinute wsX3_turnBridge := goodIn_r _ [125, 1, 4, 75, 126, 5, 127, 128, 19, 20, 21, 16, 22, 18, 23, 24, 25, 26, 27, 28, 29, 30, 31, 32, 33, 34, 35, 76, 77, 78, 66, 79, 80, 129, 130, 131, 132, 133, 134, 135, 136, 137, 138, 139, 140, 69, 141, 68, 142, 143, 144, 9, 145, 2, 3, 146, 13, 14, 15, 17, 147, 148, 149, 150, 151, 152, 182, 183, 184, 185, 186, 187, 188, 200, 201, 202, 203, 204, 205, 206, 207, 208, 209, 210, 211, 189, 190, 191, 216, 217, 218, 219, 220, 212, 213, 214] (by decide +kernel) (by decide +kernel)
set_option maxRecDepth 20000 in
theorem gX3_doMinute_X3_turnBridge : GoodIn wsX3_doMinute (wsV RX3 59 RX3 yX3_turnBridge wsX3_turnBridge) := goodIn_app (goodIn_of _ (by decide +kernel)) ggX3_doMinute_X3_turnBridge
set_option maxRecDepth 20000 in
theorem ggX3_doMinute_Jx4a65c_get_915e3 : GoodIn wsX3_doMinute wsJx4a65c_get_915e3 := goodIn_r _ [22, 18, 23, 24, 25, 26, 27, 28, 29, 30, 31, 32, 33, 16, 34, 35, 189, 190, 191] (by decide +kernel) (by decide +kernel)
set_option maxRecDepth 20000 in
theorem gX3_doMinute_Jx4a65c_get_915e3 : GoodIn wsX3_doMinute (wsV RX3 62 RJx4a65c yJx4a65c_get_915e3 wsJx4a65c_get_915e3) := goodIn_app (goodIn_of _ (by decide +kernel)) ggX3_doMinute_Jx4a65c_get_915e3
set_option maxRecDepth 20000 in
theorem ggX3_doMinute_X3_sendKeeper : GoodIn wsX3_doMinute wsX3_sendKeeper := goodIn_r _ [156, 146, 1, 4, 75, 157, 158, 106, 159, 5, 160, 19, 20, 21, 16, 22, 18, 23, 24, 25, 26, 27, 28, 29, 30, 31, 32, 33, 34, 35, 76, 77, 78, 66, 79, 80, 13, 14, 15, 17, 161, 162, 163, 9, 164, 2, 3, 165, 166, 167, 58, 168, 62, 60, 169, 170, 171, 172, 61, 212, 213, 214, 182, 183, 184, 185, 186, 187, 188, 200, 201, 202, 203, 204, 205, 206, 207, 208, 209, 210, 211, 189, 190, 191] (by decide +kernel) (by decide +kernel)
set_option maxRecDepth 20000 in
theorem gX3_doMinute_X3_sendKeeper : GoodIn wsX3_doMinute (wsV RX3 68 RX3 yX3_sendKeeper wsX3_sendKeeper) := goodIn_app (goodIn_of _ (by decide +kernel)) ggX3_doMinute_X3_sendKeeper
set_option maxRecDepth 20000 in
theorem ggX3_doMinute_X0_moveCars : GoodIn wsX3_doMinute wsX0_moveCars := goodIn_r _ [176, 177, 178, 69, 179, 180, 105, 106, 107, 181, 200, 201, 202, 203, 204, 205, 206, 207, 208, 209, 210, 211] (by decide +kernel) (by decide +kernel)
