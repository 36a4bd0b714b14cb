theorem dX0_init_0 : decode cX0_init 0 = .ok (.aload_n 0, 1) := by decide +kernel
theorem dX0_init_1 : decode cX0_init 1 = .ok (.invokespecial 3, 3) := by decide +kernel
theorem dX0_init_4 : decode cX0_init 4 = .ok (.aload_n 0, 1) := by decide +kernel
theorem dX0_init_5 : decode cX0_init 5 = .ok (.iconst 0, 1) := by decide +kernel
theorem dX0_init_6 : decode cX0_init 6 = .ok (.putfield 11, 3) := by decide +kernel
theorem dX0_init_9 : decode cX0_init 9 = .ok (.aload_n 0, 1) := by decide +kernel
theorem dX0_init_10 : decode cX0_init 10 = .ok (.iconst (-1), 1) := by decide +kernel
theorem dX0_init_11 : decode cX0_init 11 = .ok (.putfield 15, 3) := by decide +kernel
theorem dX0_init_14 : decode cX0_init 14 = .ok (.aload_n 0, 1) := by decide +kernel
theorem dX0_init_15 : decode cX0_init 15 = .ok (.iconst 0, 1) := by decide +kernel
theorem dX0_init_16 : decode cX0_init 16 = .ok (.putfield 18, 3) := by decide +kernel
theorem dX0_init_19 : decode cX0_init 19 = .ok (.aload_n 0, 1) := by decide +kernel
theorem dX0_init_20 : decode cX0_init 20 = .ok (.iconst 0, 1) := by decide +kernel
theorem dX0_init_21 : decode cX0_init 21 = .ok (.putfield 21, 3) := by decide +kernel
theorem dX0_init_24 : decode cX0_init 24 = .ok (.aload_n 0, 1) := by decide +kernel
theorem dX0_init_25 : decode cX0_init 25 = .ok (.iconst 0, 1) := by decide +kernel
theorem dX0_init_26 : decode cX0_init 26 = .ok (.putfield 24, 3) := by decide +kernel
theorem dX0_init_29 : decode cX0_init 29 = .ok (.aload_n 0, 1) := by decide +kernel
theorem dX0_init_30 : decode cX0_init 30 = .ok (.iconst 0, 1) := by decide +kernel
theorem dX0_init_31 : decode cX0_init 31 = .ok (.putfield 27, 3) := by decide +kernel
theorem dX0_init_34 : decode cX0_init 34 = .ok (.aload_n 0, 1) := by decide +kernel
theorem dX0_init_35 : decode cX0_init 35 = .ok (.iload_n 1, 1) := by decide +kernel
theorem dX0_init_36 : decode cX0_init 36 = .ok (.putfield 30, 3) := by decide +kernel
theorem dX0_init_39 : decode cX0_init 39 = .ok (.aload_n 0, 1) := by decide +kernel
theorem dX0_init_40 : decode cX0_init 40 = .ok (.iload_n 2, 1) := by decide +kernel
theorem dX0_init_41 : decode cX0_init 41 = .ok (.putfield 33, 3) := by decide +kernel
theorem dX0_init_44 : decode cX0_init 44 = .ok (.aload_n 0, 1) := by decide +kernel
theorem dX0_init_45 : decode cX0_init 45 = .ok (.iload_n 3, 1) := by decide +kernel
theorem dX0_init_46 : decode cX0_init 46 = .ok (.putfield 36, 3) := by decide +kernel
theorem dX0_init_49 : decode cX0_init 49 = .ok (.aload_n 0, 1) := by decide +kernel
theorem dX0_init_50 : decode cX0_init 50 = .ok (.iload 4, 2) := by decide +kernel
theorem dX0_init_52 : decode cX0_init 52 = .ok (.putfield 39, 3) := by decide +kernel
theorem dX0_init_55 : decode cX0_init 55 = .ok (.aload_n 0, 1) := by decide +kernel
theorem dX0_init_56 : decode cX0_init 56 = .ok (.iload 5, 2) := by decide +kernel
theorem dX0_init_58 : decode cX0_init 58 = .ok (.putfield 42, 3) := by decide +kernel
theorem dX0_init_61 : decode cX0_init 61 = .ok (.aload_n 0, 1) := by decide +kernel
theorem dX0_init_62 : decode cX0_init 62 = .ok (.iload 6, 2) := by decide +kernel
theorem dX0_init_64 : decode cX0_init 64 = .ok (.putfield 45, 3) := by decide +kernel
theorem dX0_init_67 : decode cX0_init 67 = .ok (.return_, 1) := by decide +kernel
set_option maxRecDepth 20000 in
theorem ggX2_init_X5_init : GoodIn wsX2_init wsX5_init := goodIn_r _ [18, 19, 2, 3, 20, 21, 22, 23, 24] (by decide +kernel) (by decide +kernel)
set_option maxRecDepth 20000 in
theorem gX2_init_X5_init_n11 : GoodIn wsX2_init (wsX5_init) := ggX2_init_X5_init
theorem dX2_init_0 : decode cX2_init 0 = .ok (.aload_n 0, 1) := by decide +kernel
theorem dX2_init_1 : decode cX2_init 1 = .ok (.invokespecial 3, 3) := by decide +kernel
theorem dX2_init_4 : decode cX2_init 4 = .ok (.aload_n 0, 1) := by decide +kernel
theorem dX2_init_5 : decode cX2_init 5 = .ok (.new 9, 3) := by decide +kernel
theorem dX2_init_8 : decode cX2_init 8 = .ok (.dup, 1) := by decide +kernel
theorem dX2_init_9 : decode cX2_init 9 = .ok (.invokespecial 11, 3) := by decide +kernel
theorem dX2_init_12 : decode cX2_init 12 = .ok (.putfield 12, 3) := by decide +kernel
theorem dX2_init_15 : decode cX2_init 15 = .ok (.aload_n 0, 1) := by decide +kernel
theorem dX2_init_16 : decode cX2_init 16 = .ok (.iconst 0, 1) := by decide +kernel
theorem dX2_init_17 : decode cX2_init 17 = .ok (.putfield 18, 3) := by decide +kernel
theorem dX2_init_20 : decode cX2_init 20 = .ok (.aload_n 0, 1) := by decide +kernel
theorem dX2_init_21 : decode cX2_init 21 = .ok (.iconst 0, 1) := by decide +kernel
theorem dX2_init_22 : decode cX2_init 22 = .ok (.putfield 22, 3) := by decide +kernel
theorem dX2_init_25 : decode cX2_init 25 = .ok (.aload_n 0, 1) := by decide +kernel
theorem dX2_init_26 : decode cX2_init 26 = .ok (.iconst 0, 1) := by decide +kernel
theorem dX2_init_27 : decode cX2_init 27 = .ok (.putfield 25, 3) := by decide +kernel
theorem dX2_init_30 : decode cX2_init 30 = .ok (.aload_n 0, 1) := by decide +kernel
theorem dX2_init_31 : decode cX2_init 31 = .ok (.iconst 0, 1) := by decide +kernel
theorem dX2_init_32 : decode cX2_init 32 = .ok (.putfield 28, 3) := by decide +kernel
theorem dX2_init_35 : decode cX2_init 35 = .ok (.aload_n 0, 1) := by decide +kernel
theorem dX2_init_36 : decode cX2_init 36 = .ok (.iconst 1, 1) := by decide +kernel
theorem dX2_init_37 : decode cX2_init 37 = .ok (.putfield 31, 3) := by decide +kernel
theorem dX2_init_40 : decode cX2_init 40 = .ok (.aload_n 0, 1) := by decide +kernel
theorem dX2_init_41 : decode cX2_init 41 = .ok (.iconst 0, 1) := by decide +kernel
theorem dX2_init_42 : decode cX2_init 42 = .ok (.putfield 34, 3) := by decide +kernel
theorem dX2_init_45 : decode cX2_init 45 = .ok (.aload_n 0, 1) := by decide +kernel
theorem dX2_init_46 : decode cX2_init 46 = .ok (.iconst 0, 1) := by decide +kernel
theorem dX2_init_47 : decode cX2_init 47 = .ok (.putfield 37, 3) := by decide +kernel
theorem dX2_init_50 : decode cX2_init 50 = .ok (.aload_n 0, 1) := by decide +kernel
theorem dX2_init_51 : decode cX2_init 51 = .ok (.iconst 0, 1) := by decide +kernel
theorem dX2_init_52 : decode cX2_init 52 = .ok (.putfield 40, 3) := by decide +kernel
theorem dX2_init_55 : decode cX2_init 55 = .ok (.aload_n 0, 1) := by decide +kernel
theorem dX2_init_56 : decode cX2_init 56 = .ok (.iconst 0, 1) := by decide +kernel
theorem dX2_init_57 : decode cX2_init 57 = .ok (.putfield 43, 3) := by decide +kernel
theorem dX2_init_60 : decode cX2_init 60 = .ok (.return_, 1) := by decide +kernel
set_option maxRecDepth 20000 in
theorem ggX2_readInto_X7_clear : GoodIn wsX2_readInto wsX7_clear := goodIn_r _ [9, 10, 11, 12, 168, 169, 170, 171, 172] (by decide +kernel) (by decide +kernel)
set_option maxRecDepth 20000 in
theorem gX2_readInto_X7_clear : GoodIn wsX2_readInto (wsV RX2 46 RX7 yX7_clear wsX7_clear) := goodIn_app (goodIn_of _ (by decide +kernel)) ggX2_readInto_X7_clear
set_option maxRecDepth 20000 in
theorem ggX2_readInto_X2_advance : GoodIn wsX2_readInto wsX2_advance := goodIn_r _ [17, 18, 19, 20, 21, 22, 23, 2, 24, 25, 26, 27, 28, 16, 29, 30, 31, 32, 33, 34, 35, 36, 37, 38, 39, 40, 41, 42, 43, 44, 45, 46, 47, 48, 49, 50, 51, 52, 53, 54, 55, 56, 57, 58, 59, 60, 61, 62, 63, 64, 65, 66, 67, 68, 69, 70, 71, 72, 73, 74, 75, 76, 77, 78, 79, 80, 81, 82, 83, 84, 85, 86, 87, 88, 89, 90, 91, 92, 93, 94, 95, 96, 97, 98, 99, 100, 101, 102, 103, 104, 158, 159, 160, 161, 162, 163, 164, 165, 166, 167, 173, 174] (by decide +kernel) (by decide +kernel)
set_option maxRecDepth 20000 in
theorem gX2_readInto_X2_advance : GoodIn wsX2_readInto (wsV RX2 51 RX2 yX2_advance wsX2_advance) := goodIn_app (goodIn_of _ (by decide +kernel)) ggX2_readInto_X2_advance
set_option maxRecDepth 20000 in
theorem ggX2_readInto_X2_takeToken : GoodIn wsX2_readInto wsX2_takeToken := goodIn_r _ [108, 26, 1, 109, 43, 110, 111, 112, 16, 113, 3, 25, 4, 114, 115, 116, 117, 118, 119, 120, 121, 122, 123, 124, 125, 126, 127, 128, 129, 130, 131, 132, 133, 8, 134, 11, 12, 135, 136, 137, 138, 139, 140, 141, 142, 10, 143, 144, 145, 146, 147, 148, 149, 150, 151, 152, 153, 154, 155, 156, 157, 158, 159, 160, 161, 162, 163, 164, 165, 166, 167, 168, 169, 170, 171, 172] (by decide +kernel) (by decide +kernel)
set_option maxRecDepth 20000 in
theorem gX2_readInto_X2_takeToken : GoodIn wsX2_readInto (wsV RX2 54 RX2 yX2_takeToken wsX2_takeToken) := goodIn_app (goodIn_of _ (by decide +kernel)) ggX2_readInto_X2_takeToken
theorem dX2_readInto_0 : decode cX2_readInto 0 = .ok (.aload_n 0, 1) := by decide +kernel
theorem dX2_readInto_1 : decode cX2_readInto 1 = .ok (.iconst 0, 1) := by decide +kernel
theorem dX2_readInto_2 : decode cX2_readInto 2 = .ok (.putfield 18, 3) := by decide +kernel
theorem dX2_readInto_5 : decode cX2_readInto 5 = .ok (.aload_n 0, 1) := by decide +kernel
theorem dX2_readInto_6 : decode cX2_readInto 6 = .ok (.iconst 0, 1) := by decide +kernel
theorem dX2_readInto_7 : decode cX2_readInto 7 = .ok (.putfield 28, 3) := by decide +kernel
theorem dX2_readInto_10 : decode cX2_readInto 10 = .ok (.aload_n 0, 1) := by decide +kernel
theorem dX2_readInto_11 : decode cX2_readInto 11 = .ok (.iconst 0, 1) := by decide +kernel
theorem dX2_readInto_12 : decode cX2_readInto 12 = .ok (.putfield 40, 3) := by decide +kernel
theorem dX2_readInto_15 : decode cX2_readInto 15 = .ok (.aload_n 0, 1) := by decide +kernel
theorem dX2_readInto_16 : decode cX2_readInto 16 = .ok (.iconst 0, 1) := by decide +kernel
theorem dX2_readInto_17 : decode cX2_readInto 17 = .ok (.putfield 43, 3) := by decide +kernel
theorem dX2_readInto_20 : decode cX2_readInto 20 = .ok (.aload_n 1, 1) := by decide +kernel
theorem dX2_readInto_21 : decode cX2_readInto 21 = .ok (.invokevirtual 46, 3) := by decide +kernel
theorem dX2_readInto_24 : decode cX2_readInto 24 = .ok (.iconst 1, 1) := by decide +kernel
theorem dX2_readInto_25 : decode cX2_readInto 25 = .ok (.istore_n 2, 1) := by decide +kernel
theorem dX2_readInto_26 : decode cX2_readInto 26 = .ok (.iconst 0, 1) := by decide +kernel
theorem dX2_readInto_27 : decode cX2_readInto 27 = .ok (.istore_n 3, 1) := by decide +kernel
theorem dX2_readInto_28 : decode cX2_readInto 28 = .ok (.iload_n 3, 1) := by decide +kernel
theorem dX2_readInto_29 : decode cX2_readInto 29 = .ok (.sipush 400, 3) := by decide +kernel
theorem dX2_readInto_32 : decode cX2_readInto 32 = .ok (.if_icmp .gt 23, 3) := by decide +kernel
theorem dX2_readInto_35 : decode cX2_readInto 35 = .ok (.iload_n 2, 1) := by decide +kernel
theorem dX2_readInto_36 : decode cX2_readInto 36 = .ok (.ifCond .eq 19, 3) := by decide +kernel
theorem dX2_readInto_39 : decode cX2_readInto 39 = .ok (.aload_n 0, 1) := by decide +kernel
theorem dX2_readInto_40 : decode cX2_readInto 40 = .ok (.invokevirtual 51, 3) := by decide +kernel
theorem dX2_readInto_43 : decode cX2_readInto 43 = .ok (.aload_n 0, 1) := by decide +kernel
theorem dX2_readInto_44 : decode cX2_readInto 44 = .ok (.aload_n 1, 1) := by decide +kernel
theorem dX2_readInto_45 : decode cX2_readInto 45 = .ok (.invokevirtual 54, 3) := by decide +kernel
theorem dX2_readInto_48 : decode cX2_readInto 48 = .ok (.istore_n 2, 1) := by decide +kernel
theorem dX2_readInto_49 : decode cX2_readInto 49 = .ok (.iinc 3 1, 3) := by decide +kernel
theorem dX2_readInto_52 : decode cX2_readInto 52 = .ok (.goto (-24), 3) := by decide +kernel
theorem dX2_readInto_55 : decode cX2_readInto 55 = .ok (.aload_n 0, 1) := by decide +kernel
theorem dX2_readInto_56 : decode cX2_readInto 56 = .ok (.getfield 40, 3) := by decide +kernel
theorem dX2_readInto_59 : decode cX2_readInto 59 = .ok (.ifCond .ne 7, 3) := by decide +kernel
theorem dX2_readInto_62 : decode cX2_readInto 62 = .ok (.iconst 1, 1) := by decide +kernel
theorem dX2_readInto_63 : decode cX2_readInto 63 = .ok (.goto 4, 3) := by decide +kernel
theorem dX2_readInto_66 : decode cX2_readInto 66 = .ok (.iconst 0, 1) := by decide +kernel
theorem dX2_readInto_67 : decode cX2_readInto 67 = .ok (.ireturn, 1) := by decide +kernel
set_option maxRecDepth 20000 in
theorem ggX2_takeToken_X2_fail : GoodIn wsX2_takeToken wsX2_fail := goodIn_r _ [9, 10, 11, 12, 61, 62, 63, 64, 65, 66, 67, 68, 69, 70] (by decide +kernel) (by decide +kernel)
set_option maxRecDepth 20000 in
theorem gX2_takeToken_X2_fail : GoodIn wsX2_takeToken (wsV RX2 58 RX2 yX2_fail wsX2_fail) := goodIn_app (goodIn_of _ (by decide +kernel)) ggX2_takeToken_X2_fail
set_option maxRecDepth 20000 in
theorem ggX2_takeToken_X2_takeWord : GoodIn wsX2_takeToken wsX2_takeWord := goodIn_r _ [16, 1, 2, 5, 6, 7, 8, 9, 10, 11, 12, 61, 62, 63, 64, 65, 66, 67, 68, 69, 70] (by decide +kernel) (by decide +kernel)
set_option maxRecDepth 20000 in
theorem gX2_takeToken_X2_takeWord : GoodIn wsX2_takeToken (wsV RX2 62 RX2 yX2_takeWord wsX2_takeWord) := goodIn_app (goodIn_of _ (by decide +kernel)) ggX2_takeToken_X2_takeWord
set_option maxRecDepth 20000 in
theorem ggX2_takeToken_X2_isNumber : GoodIn wsX2_takeToken wsX2_isNumber := goodIn_r _ [20, 1, 4, 5, 6, 7, 8, 9, 10, 11, 12, 21, 22, 23, 61, 62, 63, 64, 65, 66, 67, 68, 69, 70] (by decide +kernel) (by decide +kernel)
set_option maxRecDepth 20000 in
theorem gX2_takeToken_X2_isNumber : GoodIn wsX2_takeToken (wsV RX2 66 RX2 yX2_isNumber wsX2_isNumber) := goodIn_app (goodIn_of _ (by decide +kernel)) ggX2_takeToken_X2_isNumber
set_option maxRecDepth 20000 in
theorem ggX2_takeToken_X2_takeBridgeNumber : GoodIn wsX2_takeToken wsX2_takeBridgeNumber := goodIn_r _ [27, 28, 4, 29, 2, 5, 6, 7, 8, 9, 10, 11, 12, 30, 31, 32, 33, 34, 35, 36, 71, 72, 73, 74, 75, 61, 62, 63, 64, 65, 66, 67, 68, 69, 70] (by decide +kernel) (by decide +kernel)
set_option maxRecDepth 20000 in
theorem gX2_takeToken_X2_takeBridgeNumber : GoodIn wsX2_takeToken (wsV RX2 69 RX2 yX2_takeBridgeNumber wsX2_takeBridgeNumber) := goodIn_app (goodIn_of _ (by decide +kernel)) ggX2_takeToken_X2_takeBridgeNumber
set_option maxRecDepth 20000 in
theorem ggX2_takeToken_X2_takeSpanOrSemicolon : GoodIn wsX2_takeToken wsX2_takeSpanOrSemicolon := goodIn_r _ [40, 1, 29, 2, 13, 14, 15, 8, 16, 5, 6, 7, 9, 10, 11, 12, 41, 42, 43, 33, 44, 45, 61, 62, 63, 64, 65, 66, 67, 68, 69, 70, 71, 72, 73, 74, 75] (by decide +kernel) (by decide +kernel)
set_option maxRecDepth 20000 in
theorem gX2_takeToken_X2_takeSpanOrSemicolon : GoodIn wsX2_takeToken (wsV RX2 72 RX2 yX2_takeSpanOrSemicolon wsX2_takeSpanOrSemicolon) := goodIn_app (goodIn_of _ (by decide +kernel)) ggX2_takeToken_X2_takeSpanOrSemicolon
set_option maxRecDepth 20000 in
theorem ggX2_takeToken_X2_takeBarFrom : GoodIn wsX2_takeToken wsX2_takeBarFrom := goodIn_r _ [49, 4, 3, 2, 61, 62, 63, 64, 65, 66, 67, 68, 69, 70] (by decide +kernel) (by decide +kernel)
set_option maxRecDepth 20000 in
theorem gX2_takeToken_X2_takeBarFrom : GoodIn wsX2_takeToken (wsV RX2 75 RX2 yX2_takeBarFrom wsX2_takeBarFrom) := goodIn_app (goodIn_of _ (by decide +kernel)) ggX2_takeToken_X2_takeBarFrom
set_option maxRecDepth 20000 in
theorem ggX2_takeToken_X2_takeSpan : GoodIn wsX2_takeToken wsX2_takeSpan := goodIn_r _ [53, 29, 2, 54, 55, 56, 33, 57, 58, 45, 59, 60, 42, 43, 44, 61, 62, 63, 64, 65, 66, 67, 68, 69, 70, 71, 72, 73, 74, 75] (by decide +kernel) (by decide +kernel)
set_option maxRecDepth 20000 in
theorem gX2_takeToken_X2_takeSpan : GoodIn wsX2_takeToken (wsV RX2 79 RX2 yX2_takeSpan wsX2_takeSpan) := goodIn_app (goodIn_of _ (by decide +kernel)) ggX2_takeToken_X2_takeSpan
theorem dX2_takeToken_0 : decode cX2_takeToken 0 = .ok (.aload_n 0, 1) := by decide +kernel
theorem dX2_takeToken_1 : decode cX2_takeToken 1 = .ok (.getfield 31, 3) := by decide +kernel
theorem dX2_takeToken_4 : decode cX2_takeToken 4 = .ok (.ifCond .ne 9, 3) := by decide +kernel
theorem dX2_takeToken_7 : decode cX2_takeToken 7 = .ok (.aload_n 0, 1) := by decide +kernel
theorem dX2_takeToken_8 : decode cX2_takeToken 8 = .ok (.iconst 1, 1) := by decide +kernel
theorem dX2_takeToken_9 : decode cX2_takeToken 9 = .ok (.invokevirtual 58, 3) := by decide +kernel
theorem dX2_takeToken_12 : decode cX2_takeToken 12 = .ok (.ireturn, 1) := by decide +kernel
theorem dX2_takeToken_13 : decode cX2_takeToken 13 = .ok (.aload_n 0, 1) := by decide +kernel
theorem dX2_takeToken_14 : decode cX2_takeToken 14 = .ok (.getfield 18, 3) := by decide +kernel
theorem dX2_takeToken_17 : decode cX2_takeToken 17 = .ok (.tableswitch 164 0 5 #[39, 62, 86, 92, 116, 124], 39) := by decide +kernel
theorem dX2_takeToken_56 : decode cX2_takeToken 56 = .ok (.aload_n 0, 1) := by decide +kernel
theorem dX2_takeToken_57 : decode cX2_takeToken 57 = .ok (.getfield 31, 3) := by decide +kernel
theorem dX2_takeToken_60 : decode cX2_takeToken 60 = .ok (.iconst 1, 1) := by decide +kernel
theorem dX2_takeToken_61 : decode cX2_takeToken 61 = .ok (.if_icmp .eq 16, 3) := by decide +kernel
theorem dX2_takeToken_64 : decode cX2_takeToken 64 = .ok (.aload_n 0, 1) := by decide +kernel
theorem dX2_takeToken_65 : decode cX2_takeToken 65 = .ok (.iconst 5, 1) := by decide +kernel
theorem dX2_takeToken_66 : decode cX2_takeToken 66 = .ok (.iconst 1, 1) := by decide +kernel
theorem dX2_takeToken_67 : decode cX2_takeToken 67 = .ok (.invokevirtual 62, 3) := by decide +kernel
theorem dX2_takeToken_70 : decode cX2_takeToken 70 = .ok (.ifCond .eq 7, 3) := by decide +kernel
theorem dX2_takeToken_73 : decode cX2_takeToken 73 = .ok (.iconst 1, 1) := by decide +kernel
theorem dX2_takeToken_74 : decode cX2_takeToken 74 = .ok (.goto 4, 3) := by decide +kernel
theorem dX2_takeToken_77 : decode cX2_takeToken 77 = .ok (.iconst 0, 1) := by decide +kernel
theorem dX2_takeToken_78 : decode cX2_takeToken 78 = .ok (.ireturn, 1) := by decide +kernel
theorem dX2_takeToken_79 : decode cX2_takeToken 79 = .ok (.aload_n 0, 1) := by decide +kernel
theorem dX2_takeToken_80 : decode cX2_takeToken 80 = .ok (.iconst 0, 1) := by decide +kernel
theorem dX2_takeToken_81 : decode cX2_takeToken 81 = .ok (.bipush 7, 2) := by decide +kernel
theorem dX2_takeToken_83 : decode cX2_takeToken 83 = .ok (.invokevirtual 66, 3) := by decide +kernel
theorem dX2_takeToken_86 : decode cX2_takeToken 86 = .ok (.ifCond .eq 15, 3) := by decide +kernel
theorem dX2_takeToken_89 : decode cX2_takeToken 89 = .ok (.aload_n 0, 1) := by decide +kernel
theorem dX2_takeToken_90 : decode cX2_takeToken 90 = .ok (.aload_n 1, 1) := by decide +kernel
theorem dX2_takeToken_91 : decode cX2_takeToken 91 = .ok (.invokevirtual 69, 3) := by decide +kernel
theorem dX2_takeToken_94 : decode cX2_takeToken 94 = .ok (.ifCond .eq 7, 3) := by decide +kernel
theorem dX2_takeToken_97 : decode cX2_takeToken 97 = .ok (.iconst 1, 1) := by decide +kernel
theorem dX2_takeToken_98 : decode cX2_takeToken 98 = .ok (.goto 4, 3) := by decide +kernel
theorem dX2_takeToken_101 : decode cX2_takeToken 101 = .ok (.iconst 0, 1) := by decide +kernel
theorem dX2_takeToken_102 : decode cX2_takeToken 102 = .ok (.ireturn, 1) := by decide +kernel
theorem dX2_takeToken_103 : decode cX2_takeToken 103 = .ok (.aload_n 0, 1) := by decide +kernel
theorem dX2_takeToken_104 : decode cX2_takeToken 104 = .ok (.aload_n 1, 1) := by decide +kernel
theorem dX2_takeToken_105 : decode cX2_takeToken 105 = .ok (.invokevirtual 72, 3) := by decide +kernel
theorem dX2_takeToken_108 : decode cX2_takeToken 108 = .ok (.ireturn, 1) := by decide +kernel
theorem dX2_takeToken_109 : decode cX2_takeToken 109 = .ok (.aload_n 0, 1) := by decide +kernel
theorem dX2_takeToken_110 : decode cX2_takeToken 110 = .ok (.iconst 0, 1) := by decide +kernel
theorem dX2_takeToken_111 : decode cX2_takeToken 111 = .ok (.sipush 1440, 3) := by decide +kernel
theorem dX2_takeToken_114 : decode cX2_takeToken 114 = .ok (.invokevirtual 66, 3) := by decide +kernel
theorem dX2_takeToken_117 : decode cX2_takeToken 117 = .ok (.ifCond .eq 14, 3) := by decide +kernel
theorem dX2_takeToken_120 : decode cX2_takeToken 120 = .ok (.aload_n 0, 1) := by decide +kernel
theorem dX2_takeToken_121 : decode cX2_takeToken 121 = .ok (.invokevirtual 75, 3) := by decide +kernel
theorem dX2_takeToken_124 : decode cX2_takeToken 124 = .ok (.ifCond .eq 7, 3) := by decide +kernel
theorem dX2_takeToken_127 : decode cX2_takeToken 127 = .ok (.iconst 1, 1) := by decide +kernel
theorem dX2_takeToken_128 : decode cX2_takeToken 128 = .ok (.goto 4, 3) := by decide +kernel
theorem dX2_takeToken_131 : decode cX2_takeToken 131 = .ok (.iconst 0, 1) := by decide +kernel
theorem dX2_takeToken_132 : decode cX2_takeToken 132 = .ok (.ireturn, 1) := by decide +kernel
theorem dX2_takeToken_133 : decode cX2_takeToken 133 = .ok (.aload_n 0, 1) := by decide +kernel
theorem dX2_takeToken_134 : decode cX2_takeToken 134 = .ok (.bipush 7, 2) := by decide +kernel
theorem dX2_takeToken_136 : decode cX2_takeToken 136 = .ok (.iconst 5, 1) := by decide +kernel
theorem dX2_takeToken_137 : decode cX2_takeToken 137 = .ok (.invokevirtual 62, 3) := by decide +kernel
theorem dX2_takeToken_140 : decode cX2_takeToken 140 = .ok (.ireturn, 1) := by decide +kernel
theorem dX2_takeToken_141 : decode cX2_takeToken 141 = .ok (.aload_n 0, 1) := by decide +kernel
theorem dX2_takeToken_142 : decode cX2_takeToken 142 = .ok (.aload_n 0, 1) := by decide +kernel
theorem dX2_takeToken_143 : decode cX2_takeToken 143 = .ok (.getfield 25, 3) := by decide +kernel
theorem dX2_takeToken_146 : decode cX2_takeToken 146 = .ok (.iconst 1, 1) := by decide +kernel
theorem dX2_takeToken_147 : decode cX2_takeToken 147 = .ok (.iadd, 1) := by decide +kernel
theorem dX2_takeToken_148 : decode cX2_takeToken 148 = .ok (.sipush 1440, 3) := by decide +kernel
theorem dX2_takeToken_151 : decode cX2_takeToken 151 = .ok (.invokevirtual 66, 3) := by decide +kernel
theorem dX2_takeToken_154 : decode cX2_takeToken 154 = .ok (.ifCond .eq 25, 3) := by decide +kernel
theorem dX2_takeToken_157 : decode cX2_takeToken 157 = .ok (.aload_n 0, 1) := by decide +kernel
theorem dX2_takeToken_158 : decode cX2_takeToken 158 = .ok (.aload_n 1, 1) := by decide +kernel
theorem dX2_takeToken_159 : decode cX2_takeToken 159 = .ok (.aload_n 0, 1) := by decide +kernel
theorem dX2_takeToken_160 : decode cX2_takeToken 160 = .ok (.getfield 25, 3) := by decide +kernel
theorem dX2_takeToken_163 : decode cX2_takeToken 163 = .ok (.aload_n 0, 1) := by decide +kernel
theorem dX2_takeToken_164 : decode cX2_takeToken 164 = .ok (.getfield 37, 3) := by decide +kernel
theorem dX2_takeToken_167 : decode cX2_takeToken 167 = .ok (.iconst 1, 1) := by decide +kernel
theorem dX2_takeToken_168 : decode cX2_takeToken 168 = .ok (.isub, 1) := by decide +kernel
theorem dX2_takeToken_169 : decode cX2_takeToken 169 = .ok (.invokevirtual 79, 3) := by decide +kernel
theorem dX2_takeToken_172 : decode cX2_takeToken 172 = .ok (.ifCond .eq 7, 3) := by decide +kernel
theorem dX2_takeToken_175 : decode cX2_takeToken 175 = .ok (.iconst 1, 1) := by decide +kernel
theorem dX2_takeToken_176 : decode cX2_takeToken 176 = .ok (.goto 4, 3) := by decide +kernel
theorem dX2_takeToken_179 : decode cX2_takeToken 179 = .ok (.iconst 0, 1) := by decide +kernel
theorem dX2_takeToken_180 : decode cX2_takeToken 180 = .ok (.ireturn, 1) := by decide +kernel
theorem dX2_takeToken_181 : decode cX2_takeToken 181 = .ok (.aload_n 0, 1) := by decide +kernel
theorem dX2_takeToken_182 : decode cX2_takeToken 182 = .ok (.iconst 0, 1) := by decide +kernel
theorem dX2_takeToken_183 : decode cX2_takeToken 183 = .ok (.sipush 1440, 3) := by decide +kernel
theorem dX2_takeToken_186 : decode cX2_takeToken 186 = .ok (.invokevirtual 66, 3) := by decide +kernel
theorem dX2_takeToken_189 : decode cX2_takeToken 189 = .ok (.ifCond .eq 27, 3) := by decide +kernel
theorem dX2_takeToken_192 : decode cX2_takeToken 192 = .ok (.aload_n 0, 1) := by decide +kernel
theorem dX2_takeToken_193 : decode cX2_takeToken 193 = .ok (.aload_n 1, 1) := by decide +kernel
theorem dX2_takeToken_194 : decode cX2_takeToken 194 = .ok (.aload_n 0, 1) := by decide +kernel
theorem dX2_takeToken_195 : decode cX2_takeToken 195 = .ok (.getfield 37, 3) := by decide +kernel
theorem dX2_takeToken_198 : decode cX2_takeToken 198 = .ok (.iconst 2, 1) := by decide +kernel
theorem dX2_takeToken_199 : decode cX2_takeToken 199 = .ok (.isub, 1) := by decide +kernel
theorem dX2_takeToken_200 : decode cX2_takeToken 200 = .ok (.aload_n 0, 1) := by decide +kernel
theorem dX2_takeToken_201 : decode cX2_takeToken 201 = .ok (.getfield 37, 3) := by decide +kernel
theorem dX2_takeToken_204 : decode cX2_takeToken 204 = .ok (.iconst 2, 1) := by decide +kernel
theorem dX2_takeToken_205 : decode cX2_takeToken 205 = .ok (.iadd, 1) := by decide +kernel
theorem dX2_takeToken_206 : decode cX2_takeToken 206 = .ok (.invokevirtual 79, 3) := by decide +kernel
theorem dX2_takeToken_209 : decode cX2_takeToken 209 = .ok (.ifCond .eq 7, 3) := by decide +kernel
theorem dX2_takeToken_212 : decode cX2_takeToken 212 = .ok (.iconst 1, 1) := by decide +kernel
theorem dX2_takeToken_213 : decode cX2_takeToken 213 = .ok (.goto 4, 3) := by decide +kernel
theorem dX2_takeToken_216 : decode cX2_takeToken 216 = .ok (.iconst 0, 1) := by decide +kernel
theorem dX2_takeToken_217 : decode cX2_takeToken 217 = .ok (.ireturn, 1) := by decide +kernel
set_option maxRecDepth 20000 in
theorem ggX2_advance_X2_isBlank : GoodIn wsX2_advance wsX2_isBlank := goodIn_r _ [14] (by decide +kernel) (by decide +kernel)
set_option maxRecDepth 20000 in
theorem gX2_advance_X2_isBlank : GoodIn wsX2_advance (va_wsS RX2 115 yX2_isBlank wsX2_isBlank) := goodIn_app (goodIn_of _ (by decide +kernel)) ggX2_advance_X2_isBlank
set_option maxRecDepth 20000 in
theorem ggX2_advance_X2_isLetter : GoodIn wsX2_advance wsX2_isLetter := goodIn_r _ [17, 18, 19, 13, 20] (by decide +kernel) (by decide +kernel)
set_option maxRecDepth 20000 in
theorem gX2_advance_X2_isLetter : GoodIn wsX2_advance (va_wsS RX2 118 yX2_isLetter wsX2_isLetter) := goodIn_app (goodIn_of _ (by decide +kernel)) ggX2_advance_X2_isLetter
set_option maxRecDepth 20000 in
theorem ggX2_advance_X2_isDigit : GoodIn wsX2_advance wsX2_isDigit := goodIn_r _ [23] (by decide +kernel) (by decide +kernel)
set_option maxRecDepth 20000 in
theorem gX2_advance_X2_isDigit : GoodIn wsX2_advance (va_wsS RX2 121 yX2_isDigit wsX2_isDigit) := goodIn_app (goodIn_of _ (by decide +kernel)) ggX2_advance_X2_isDigit
set_option maxRecDepth 20000 in
theorem ggX2_advance_X2_tokenOfRun : GoodIn wsX2_advance wsX2_tokenOfRun := goodIn_r _ [27, 9, 7, 1, 8, 28, 21, 22, 13, 23, 18, 19, 20, 29, 30, 31, 32, 33, 34, 35, 36, 37, 38, 39, 40, 41, 42, 43, 44, 45, 46, 47, 48, 49, 50, 51, 52, 53, 54, 55, 56, 57, 58, 59, 60, 61, 62, 63, 64, 65, 66, 67, 68, 69, 70, 71, 72, 73, 74, 75, 76, 77, 78, 79, 80, 81, 82, 83, 84, 85, 86, 87, 88, 89, 90, 91, 92, 93, 94, 95, 96, 97, 98, 99, 100, 101] (by decide +kernel) (by decide +kernel)
set_option maxRecDepth 20000 in
theorem gX2_advance_X2_tokenOfRun : GoodIn wsX2_advance (wsV RX2 124 RX2 yX2_tokenOfRun wsX2_tokenOfRun) := goodIn_app (goodIn_of _ (by decide +kernel)) ggX2_advance_X2_tokenOfRun
theorem dX2_advance_0 : decode cX2_advance 0 = .ok (.aload_n 0, 1) := by decide +kernel
theorem dX2_advance_1 : decode cX2_advance 1 = .ok (.getfield 12, 3) := by decide +kernel
theorem dX2_advance_4 : decode cX2_advance 4 = .ok (.getfield 102, 3) := by decide +kernel
theorem dX2_advance_7 : decode cX2_advance 7 = .ok (.sipush 400, 3) := by decide +kernel
theorem dX2_advance_10 : decode cX2_advance 10 = .ok (.invokestatic 105, 3) := by decide +kernel
theorem dX2_advance_13 : decode cX2_advance 13 = .ok (.istore_n 1, 1) := by decide +kernel
theorem dX2_advance_14 : decode cX2_advance 14 = .ok (.aload_n 0, 1) := by decide +kernel
theorem dX2_advance_15 : decode cX2_advance 15 = .ok (.getfield 28, 3) := by decide +kernel
theorem dX2_advance_18 : decode cX2_advance 18 = .ok (.iload_n 1, 1) := by decide +kernel
theorem dX2_advance_19 : decode cX2_advance 19 = .ok (.if_icmp .ge 34, 3) := by decide +kernel
theorem dX2_advance_22 : decode cX2_advance 22 = .ok (.aload_n 0, 1) := by decide +kernel
theorem dX2_advance_23 : decode cX2_advance 23 = .ok (.getfield 12, 3) := by decide +kernel
theorem dX2_advance_26 : decode cX2_advance 26 = .ok (.getfield 111, 3) := by decide +kernel
theorem dX2_advance_29 : decode cX2_advance 29 = .ok (.aload_n 0, 1) := by decide +kernel
theorem dX2_advance_30 : decode cX2_advance 30 = .ok (.getfield 28, 3) := by decide +kernel
theorem dX2_advance_33 : decode cX2_advance 33 = .ok (.iaload, 1) := by decide +kernel
theorem dX2_advance_34 : decode cX2_advance 34 = .ok (.invokestatic 115, 3) := by decide +kernel
theorem dX2_advance_37 : decode cX2_advance 37 = .ok (.ifCond .eq 16, 3) := by decide +kernel
theorem dX2_advance_40 : decode cX2_advance 40 = .ok (.aload_n 0, 1) := by decide +kernel
theorem dX2_advance_41 : decode cX2_advance 41 = .ok (.dup, 1) := by decide +kernel
theorem dX2_advance_42 : decode cX2_advance 42 = .ok (.getfield 28, 3) := by decide +kernel
theorem dX2_advance_45 : decode cX2_advance 45 = .ok (.iconst 1, 1) := by decide +kernel
theorem dX2_advance_46 : decode cX2_advance 46 = .ok (.iadd, 1) := by decide +kernel
theorem dX2_advance_47 : decode cX2_advance 47 = .ok (.putfield 28, 3) := by decide +kernel
theorem dX2_advance_50 : decode cX2_advance 50 = .ok (.goto (-36), 3) := by decide +kernel
theorem dX2_advance_53 : decode cX2_advance 53 = .ok (.aload_n 0, 1) := by decide +kernel
theorem dX2_advance_54 : decode cX2_advance 54 = .ok (.getfield 28, 3) := by decide +kernel
theorem dX2_advance_57 : decode cX2_advance 57 = .ok (.iload_n 1, 1) := by decide +kernel
theorem dX2_advance_58 : decode cX2_advance 58 = .ok (.if_icmp .lt 31, 3) := by decide +kernel
theorem dX2_advance_61 : decode cX2_advance 61 = .ok (.aload_n 0, 1) := by decide +kernel
theorem dX2_advance_62 : decode cX2_advance 62 = .ok (.iload_n 1, 1) := by decide +kernel
theorem dX2_advance_63 : decode cX2_advance 63 = .ok (.putfield 34, 3) := by decide +kernel
theorem dX2_advance_66 : decode cX2_advance 66 = .ok (.aload_n 0, 1) := by decide +kernel
theorem dX2_advance_67 : decode cX2_advance 67 = .ok (.aload_n 0, 1) := by decide +kernel
theorem dX2_advance_68 : decode cX2_advance 68 = .ok (.getfield 12, 3) := by decide +kernel
theorem dX2_advance_71 : decode cX2_advance 71 = .ok (.getfield 102, 3) := by decide +kernel
theorem dX2_advance_74 : decode cX2_advance 74 = .ok (.sipush 400, 3) := by decide +kernel
theorem dX2_advance_77 : decode cX2_advance 77 = .ok (.if_icmp .le 7, 3) := by decide +kernel
theorem dX2_advance_80 : decode cX2_advance 80 = .ok (.iconst 2, 1) := by decide +kernel
theorem dX2_advance_81 : decode cX2_advance 81 = .ok (.goto 4, 3) := by decide +kernel
theorem dX2_advance_84 : decode cX2_advance 84 = .ok (.iconst 1, 1) := by decide +kernel
theorem dX2_advance_85 : decode cX2_advance 85 = .ok (.putfield 31, 3) := by decide +kernel
theorem dX2_advance_88 : decode cX2_advance 88 = .ok (.return_, 1) := by decide +kernel
theorem dX2_advance_89 : decode cX2_advance 89 = .ok (.aload_n 0, 1) := by decide +kernel
theorem dX2_advance_90 : decode cX2_advance 90 = .ok (.aload_n 0, 1) := by decide +kernel
theorem dX2_advance_91 : decode cX2_advance 91 = .ok (.getfield 28, 3) := by decide +kernel
theorem dX2_advance_94 : decode cX2_advance 94 = .ok (.putfield 34, 3) := by decide +kernel
theorem dX2_advance_97 : decode cX2_advance 97 = .ok (.aload_n 0, 1) := by decide +kernel
theorem dX2_advance_98 : decode cX2_advance 98 = .ok (.getfield 12, 3) := by decide +kernel
theorem dX2_advance_101 : decode cX2_advance 101 = .ok (.getfield 111, 3) := by decide +kernel
theorem dX2_advance_104 : decode cX2_advance 104 = .ok (.aload_n 0, 1) := by decide +kernel
theorem dX2_advance_105 : decode cX2_advance 105 = .ok (.getfield 28, 3) := by decide +kernel
theorem dX2_advance_108 : decode cX2_advance 108 = .ok (.iaload, 1) := by decide +kernel
theorem dX2_advance_109 : decode cX2_advance 109 = .ok (.bipush 59, 2) := by decide +kernel
theorem dX2_advance_111 : decode cX2_advance 111 = .ok (.if_icmp .ne 19, 3) := by decide +kernel
theorem dX2_advance_114 : decode cX2_advance 114 = .ok (.aload_n 0, 1) := by decide +kernel
theorem dX2_advance_115 : decode cX2_advance 115 = .ok (.dup, 1) := by decide +kernel
theorem dX2_advance_116 : decode cX2_advance 116 = .ok (.getfield 28, 3) := by decide +kernel
theorem dX2_advance_119 : decode cX2_advance 119 = .ok (.iconst 1, 1) := by decide +kernel
theorem dX2_advance_120 : decode cX2_advance 120 = .ok (.iadd, 1) := by decide +kernel
theorem dX2_advance_121 : decode cX2_advance 121 = .ok (.putfield 28, 3) := by decide +kernel
theorem dX2_advance_124 : decode cX2_advance 124 = .ok (.aload_n 0, 1) := by decide +kernel
theorem dX2_advance_125 : decode cX2_advance 125 = .ok (.iconst 3, 1) := by decide +kernel
theorem dX2_advance_126 : decode cX2_advance 126 = .ok (.putfield 31, 3) := by decide +kernel
theorem dX2_advance_129 : decode cX2_advance 129 = .ok (.return_, 1) := by decide +kernel
theorem dX2_advance_130 : decode cX2_advance 130 = .ok (.aload_n 0, 1) := by decide +kernel
theorem dX2_advance_131 : decode cX2_advance 131 = .ok (.getfield 28, 3) := by decide +kernel
theorem dX2_advance_134 : decode cX2_advance 134 = .ok (.aload_n 0, 1) := by decide +kernel
theorem dX2_advance_135 : decode cX2_advance 135 = .ok (.getfield 12, 3) := by decide +kernel
theorem dX2_advance_138 : decode cX2_advance 138 = .ok (.getfield 102, 3) := by decide +kernel
theorem dX2_advance_141 : decode cX2_advance 141 = .ok (.if_icmp .ge 52, 3) := by decide +kernel
theorem dX2_advance_144 : decode cX2_advance 144 = .ok (.aload_n 0, 1) := by decide +kernel
theorem dX2_advance_145 : decode cX2_advance 145 = .ok (.getfield 12, 3) := by decide +kernel
theorem dX2_advance_148 : decode cX2_advance 148 = .ok (.getfield 111, 3) := by decide +kernel
theorem dX2_advance_151 : decode cX2_advance 151 = .ok (.aload_n 0, 1) := by decide +kernel
theorem dX2_advance_152 : decode cX2_advance 152 = .ok (.getfield 28, 3) := by decide +kernel
theorem dX2_advance_155 : decode cX2_advance 155 = .ok (.iaload, 1) := by decide +kernel
theorem dX2_advance_156 : decode cX2_advance 156 = .ok (.invokestatic 118, 3) := by decide +kernel
theorem dX2_advance_159 : decode cX2_advance 159 = .ok (.ifCond .ne 21, 3) := by decide +kernel
theorem dX2_advance_162 : decode cX2_advance 162 = .ok (.aload_n 0, 1) := by decide +kernel
theorem dX2_advance_163 : decode cX2_advance 163 = .ok (.getfield 12, 3) := by decide +kernel
theorem dX2_advance_166 : decode cX2_advance 166 = .ok (.getfield 111, 3) := by decide +kernel
theorem dX2_advance_169 : decode cX2_advance 169 = .ok (.aload_n 0, 1) := by decide +kernel
theorem dX2_advance_170 : decode cX2_advance 170 = .ok (.getfield 28, 3) := by decide +kernel
theorem dX2_advance_173 : decode cX2_advance 173 = .ok (.iaload, 1) := by decide +kernel
theorem dX2_advance_174 : decode cX2_advance 174 = .ok (.invokestatic 121, 3) := by decide +kernel
theorem dX2_advance_177 : decode cX2_advance 177 = .ok (.ifCond .eq 16, 3) := by decide +kernel
theorem dX2_advance_180 : decode cX2_advance 180 = .ok (.aload_n 0, 1) := by decide +kernel
theorem dX2_advance_181 : decode cX2_advance 181 = .ok (.dup, 1) := by decide +kernel
theorem dX2_advance_182 : decode cX2_advance 182 = .ok (.getfield 28, 3) := by decide +kernel
theorem dX2_advance_185 : decode cX2_advance 185 = .ok (.iconst 1, 1) := by decide +kernel
theorem dX2_advance_186 : decode cX2_advance 186 = .ok (.iadd, 1) := by decide +kernel
theorem dX2_advance_187 : decode cX2_advance 187 = .ok (.putfield 28, 3) := by decide +kernel
theorem dX2_advance_190 : decode cX2_advance 190 = .ok (.goto (-60), 3) := by decide +kernel
theorem dX2_advance_193 : decode cX2_advance 193 = .ok (.aload_n 0, 1) := by decide +kernel
theorem dX2_advance_194 : decode cX2_advance 194 = .ok (.aload_n 0, 1) := by decide +kernel
theorem dX2_advance_195 : decode cX2_advance 195 = .ok (.invokevirtual 124, 3) := by decide +kernel
theorem dX2_advance_198 : decode cX2_advance 198 = .ok (.putfield 31, 3) := by decide +kernel
theorem dX2_advance_201 : decode cX2_advance 201 = .ok (.return_, 1) := by decide +kernel
set_option maxRecDepth 20000 in
theorem ggX3_init_X6_init : GoodIn wsX3_init wsX6_init := goodIn_r _ [21, 22, 2, 3, 23, 24, 50] (by decide +kernel) (by decide +kernel)
set_option maxRecDepth 20000 in
theorem gX3_init_X6_init_n11 : GoodIn wsX3_init (wsX6_init) := ggX3_init_X6_init
set_option maxRecDepth 20000 in
theorem ggX3_init_Jx4a65c_init_da8c8 : GoodIn wsX3_init wsJx4a65c_init_da8c8 := goodIn_r _ [27, 28, 29, 30, 31, 32, 33, 34, 35, 36, 37, 38, 39, 2, 3, 58, 59, 60] (by decide +kernel) (by decide +kernel)
set_option maxRecDepth 20000 in
theorem gX3_init_Jx4a65c_init_da8c8 : GoodIn wsX3_init (wsJx4a65c_init_da8c8) := ggX3_init_Jx4a65c_init_da8c8
set_option maxRecDepth 20000 in
theorem ggX3_init_X7_init : GoodIn wsX3_init wsX7_init := goodIn_r _ [41, 42, 2, 3, 43, 23, 44, 45, 46, 47, 48, 49, 61, 62, 63, 64, 65] (by decide +kernel) (by decide +kernel)
set_option maxRecDepth 20000 in
theorem gX3_init_X7_init_n33 : GoodIn wsX3_init (wsX7_init) := ggX3_init_X7_init
theorem dX3_init_0 : decode cX3_init 0 = .ok (.aload_n 0, 1) := by decide +kernel
theorem dX3_init_1 : decode cX3_init 1 = .ok (.invokespecial 3, 3) := by decide +kernel
theorem dX3_init_4 : decode cX3_init 4 = .ok (.aload_n 0, 1) := by decide +kernel
theorem dX3_init_5 : decode cX3_init 5 = .ok (.new 9, 3) := by decide +kernel
theorem dX3_init_8 : decode cX3_init 8 = .ok (.dup, 1) := by decide +kernel
theorem dX3_init_9 : decode cX3_init 9 = .ok (.invokespecial 11, 3) := by decide +kernel
theorem dX3_init_12 : decode cX3_init 12 = .ok (.putfield 12, 3) := by decide +kernel
theorem dX3_init_15 : decode cX3_init 15 = .ok (.aload_n 0, 1) := by decide +kernel
theorem dX3_init_16 : decode cX3_init 16 = .ok (.new 18, 3) := by decide +kernel
theorem dX3_init_19 : decode cX3_init 19 = .ok (.dup, 1) := by decide +kernel
theorem dX3_init_20 : decode cX3_init 20 = .ok (.invokespecial 20, 3) := by decide +kernel
theorem dX3_init_23 : decode cX3_init 23 = .ok (.putfield 21, 3) := by decide +kernel
theorem dX3_init_26 : decode cX3_init 26 = .ok (.aload_n 0, 1) := by decide +kernel
theorem dX3_init_27 : decode cX3_init 27 = .ok (.new 18, 3) := by decide +kernel
theorem dX3_init_30 : decode cX3_init 30 = .ok (.dup, 1) := by decide +kernel
theorem dX3_init_31 : decode cX3_init 31 = .ok (.invokespecial 20, 3) := by decide +kernel
theorem dX3_init_34 : decode cX3_init 34 = .ok (.putfield 25, 3) := by decide +kernel
theorem dX3_init_37 : decode cX3_init 37 = .ok (.aload_n 0, 1) := by decide +kernel
theorem dX3_init_38 : decode cX3_init 38 = .ok (.new 18, 3) := by decide +kernel
theorem dX3_init_41 : decode cX3_init 41 = .ok (.dup, 1) := by decide +kernel
theorem dX3_init_42 : decode cX3_init 42 = .ok (.invokespecial 20, 3) := by decide +kernel
theorem dX3_init_45 : decode cX3_init 45 = .ok (.putfield 28, 3) := by decide +kernel
theorem dX3_init_48 : decode cX3_init 48 = .ok (.aload_n 0, 1) := by decide +kernel
theorem dX3_init_49 : decode cX3_init 49 = .ok (.new 31, 3) := by decide +kernel
theorem dX3_init_52 : decode cX3_init 52 = .ok (.dup, 1) := by decide +kernel
theorem dX3_init_53 : decode cX3_init 53 = .ok (.invokespecial 33, 3) := by decide +kernel
theorem dX3_init_56 : decode cX3_init 56 = .ok (.putfield 34, 3) := by decide +kernel
theorem dX3_init_59 : decode cX3_init 59 = .ok (.aload_n 0, 1) := by decide +kernel
theorem dX3_init_60 : decode cX3_init 60 = .ok (.iconst 5, 1) := by decide +kernel
theorem dX3_init_61 : decode cX3_init 61 = .ok (.putfield 38, 3) := by decide +kernel
theorem dX3_init_64 : decode cX3_init 64 = .ok (.aload_n 0, 1) := by decide +kernel
theorem dX3_init_65 : decode cX3_init 65 = .ok (.iconst 0, 1) := by decide +kernel
theorem dX3_init_66 : decode cX3_init 66 = .ok (.putfield 42, 3) := by decide +kernel
theorem dX3_init_69 : decode cX3_init 69 = .ok (.return_, 1) := by decide +kernel
set_option maxRecDepth 20000 in
theorem ggX3_doMinute_X3_bringAll : GoodIn wsX3_doMinute wsX3_bringAll := goodIn_r _ [10, 11, 12, 5, 2, 3, 1, 4, 13, 14, 15, 16, 17, 18, 19, 20, 21, 22, 23, 24, 25, 26, 27, 28, 29, 30, 31, 32, 33, 34, 35, 36, 37, 38, 39, 40, 41, 42, 43, 44, 45, 9, 46, 47, 48, 49, 50, 51, 52, 53, 54, 55, 56, 57, 58, 59, 60, 61, 62, 63, 64, 65, 66, 67, 68, 69, 182, 183, 184, 185, 186, 187, 188, 189, 190, 191, 192, 193, 194, 195, 196, 197, 198, 199, 200, 201, 202, 203, 204, 205, 206, 207, 208, 209, 210, 211, 212, 213, 214] (by decide +kernel) (by decide +kernel)
set_option maxRecDepth 20000 in
theorem gX3_doMinute_X3_bringAll : GoodIn wsX3_doMinute (wsV RX3 45 RX3 yX3_bringAll wsX3_bringAll) := goodIn_app (goodIn_of _ (by decide +kernel)) ggX3_doMinute_X3_bringAll
set_option maxRecDepth 20000 in
theorem ggX3_doMinute_Jx4a65c_size_8abf5 : GoodIn wsX3_doMinute wsJx4a65c_size_8abf5 := goodIn_r _ [17, 18, 189, 190, 191] (by decide +kernel) (by decide +kernel)
set_option maxRecDepth 20000 in
theorem gX3_doMinute_Jx4a65c_size_8abf5 : GoodIn wsX3_doMinute (wsV RX3 48 RJx4a65c yJx4a65c_size_8abf5 wsJx4a65c_size_8abf5) := goodIn_app (goodIn_of _ (by decide +kernel)) ggX3_doMinute_Jx4a65c_size_8abf5
set_option maxRecDepth 20000 in
theorem ggX3_doMinute_X3_letShipsThrough : GoodIn wsX3_doMinute wsX3_letShipsThrough := goodIn_r _ [73, 1, 4, 11, 12, 74, 5, 75, 19, 20, 21, 16, 22, 18, 23, 24, 25, 26, 27, 28, 29, 30, 31, 32, 33, 34, 35, 76, 77, 78, 66, 79, 80, 13, 14, 15, 17, 81, 82, 83, 39, 84, 41, 85, 86, 87, 88, 9, 89, 90, 91, 92, 93, 94, 95, 96, 97, 98, 99, 100, 101, 49, 102, 54, 48, 47, 103, 104, 105, 106, 107, 108, 109, 110, 111, 112, 113, 114, 115, 116, 182, 183, 184, 185, 186, 187, 188, 192, 193, 194, 195, 196, 197, 198, 199, 200, 201, 202, 203, 204, 205, 206, 207, 208, 209, 210, 211, 189, 190, 191, 215] (by decide +kernel) (by decide +kernel)
set_option maxRecDepth 20000 in
theorem gX3_doMinute_X3_letShipsThrough : GoodIn wsX3_doMinute (wsV RX3 52 RX3 yX3_letShipsThrough wsX3_letShipsThrough) := goodIn_app (goodIn_of _ (by decide +kernel)) ggX3_doMinute_X3_letShipsThrough
set_option maxRecDepth 20000 in
theorem ggX3_doMinute_X3_countWaits : GoodIn wsX3_doMinute wsX3_countWaits := goodIn_r _ [120, 11, 12, 48, 121, 13, 14, 15, 16, 17, 18, 19, 20, 21, 22, 23, 24, 25, 26, 27, 28, 29, 30, 31, 32, 33, 34, 35, 182, 183, 184, 185, 186, 187, 188, 192, 193, 194, 195, 196, 197, 198, 199, 189, 190, 191] (by decide +kernel) (by decide +kernel)
set_option maxRecDepth 20000 in
theorem gX3_doMinute_X3_countWaits : GoodIn wsX3_doMinute (wsV RX3 56 RX3 yX3_countWaits wsX3_countWaits) := goodIn_app (goodIn_of _ (by decide +kernel)) ggX3_doMinute_X3_countWaits
set_option maxRecDepth 20000 in
theorem ggX3_doMinute_X3_turnBridge : GoodIn wsX3_doMinute wsX3_turnBridge := goodIn_r _ [125, 1, 4, 75, 126, 5, 127, 128, 19, 20, 21, 16, 22, 18, 23, 24, 25, 26, 27, 28, 29, 30, 31, 32, 33, 34, 35, 76, 77, 78, 66, 79, 80, 129, 130, 131, 132, 133, 134, 135, 136, 137, 138, 139, 140, 69, 141, 68, 142, 143, 144, 9, 145, 2, 3, 146, 13, 14, 15, 17, 147, 148, 149, 150, 151, 152, 182, 183, 184, 185, 186, 187, 188, 200, 201, 202, 203, 204, 205, 206, 207, 208, 209, 210, 211, 189, 190, 191, 216, 217, 218, 219, 220, 212, 213, 214] (by decide +kernel) (by decide +kernel)
set_option maxRecDepth 20000 in
theorem gX3_doMinute_X3_turnBridge : GoodIn wsX3_doMinute (wsV RX3 59 RX3 yX3_turnBridge wsX3_turnBridge) := goodIn_app (goodIn_of _ (by decide +kernel)) ggX3_doMinute_X3_turnBridge
set_option maxRecDepth 20000 in
theorem ggX3_doMinute_Jx4a65c_get_915e3 : GoodIn wsX3_doMinute wsJx4a65c_get_915e3 := goodIn_r _ [22, 18, 23, 24, 25, 26, 27, 28, 29, 30, 31, 32, 33, 16, 34, 35, 189, 190, 191] (by decide +kernel) (by decide +kernel)
set_option maxRecDepth 20000 in
theorem gX3_doMinute_Jx4a65c_get_915e3 : GoodIn wsX3_doMinute (wsV RX3 62 RJx4a65c yJx4a65c_get_915e3 wsJx4a65c_get_915e3) := goodIn_app (goodIn_of _ (by decide +kernel)) ggX3_doMinute_Jx4a65c_get_915e3
set_option maxRecDepth 20000 in
theorem ggX3_doMinute_X3_sendKeeper : GoodIn wsX3_doMinute wsX3_sendKeeper := goodIn_r _ [156, 146, 1, 4, 75, 157, 158, 106, 159, 5, 160, 19, 20, 21, 16, 22, 18, 23, 24, 25, 26, 27, 28, 29, 30, 31, 32, 33, 34, 35, 76, 77, 78, 66, 79, 80, 13, 14, 15, 17, 161, 162, 163, 9, 164, 2, 3, 165, 166, 167, 58, 168, 62, 60, 169, 170, 171, 172, 61, 212, 213, 214, 182, 183, 184, 185, 186, 187, 188, 200, 201, 202, 203, 204, 205, 206, 207, 208, 209, 210, 211, 189, 190, 191] (by decide +kernel) (by decide +kernel)
set_option maxRecDepth 20000 in
theorem gX3_doMinute_X3_sendKeeper : GoodIn wsX3_doMinute (wsV RX3 68 RX3 yX3_sendKeeper wsX3_sendKeeper) := goodIn_app (goodIn_of _ (by decide +kernel)) ggX3_doMinute_X3_sendKeeper
set_option maxRecDepth 20000 in
theorem ggX3_doMinute_X0_moveCars : GoodIn wsX3_doMinute wsX0_moveCars := goodIn_r _ [176, 177, 178, 69, 179, 180, 105, 106, 107, 181, 200, 201, 202, 203, 204, 205, 206, 207, 208, 209, 210, 211] (by decide +kernel) (by decide +kernel)
set_option maxRecDepth 20000 in
theorem gX3_doMinute_X0_moveCars : GoodIn wsX3_doMinute (wsV RX3 74 RX0 yX0_moveCars wsX0_moveCars) := goodIn_app (goodIn_of _ (by decide +kernel)) ggX3_doMinute_X0_moveCars
theorem dX3_doMinute_0 : decode cX3_doMinute 0 = .ok (.aload_n 0, 1) := by decide +kernel
theorem dX3_doMinute_1 : decode cX3_doMinute 1 = .ok (.invokevirtual 45, 3) := by decide +kernel
theorem dX3_doMinute_4 : decode cX3_doMinute 4 = .ok (.iconst 0, 1) := by decide +kernel
theorem dX3_doMinute_5 : decode cX3_doMinute 5 = .ok (.istore_n 1, 1) := by decide +kernel
theorem dX3_doMinute_6 : decode cX3_doMinute 6 = .ok (.iload_n 1, 1) := by decide +kernel
theorem dX3_doMinute_7 : decode cX3_doMinute 7 = .ok (.aload_n 0, 1) := by decide +kernel
theorem dX3_doMinute_8 : decode cX3_doMinute 8 = .ok (.getfield 21, 3) := by decide +kernel
theorem dX3_doMinute_11 : decode cX3_doMinute 11 = .ok (.invokevirtual 48, 3) := by decide +kernel
theorem dX3_doMinute_14 : decode cX3_doMinute 14 = .ok (.if_icmp .ge 14, 3) := by decide +kernel
theorem dX3_doMinute_17 : decode cX3_doMinute 17 = .ok (.aload_n 0, 1) := by decide +kernel
theorem dX3_doMinute_18 : decode cX3_doMinute 18 = .ok (.iload_n 1, 1) := by decide +kernel
theorem dX3_doMinute_19 : decode cX3_doMinute 19 = .ok (.invokevirtual 52, 3) := by decide +kernel
theorem dX3_doMinute_22 : decode cX3_doMinute 22 = .ok (.iinc 1 1, 3) := by decide +kernel
theorem dX3_doMinute_25 : decode cX3_doMinute 25 = .ok (.goto (-19), 3) := by decide +kernel
theorem dX3_doMinute_28 : decode cX3_doMinute 28 = .ok (.aload_n 0, 1) := by decide +kernel
theorem dX3_doMinute_29 : decode cX3_doMinute 29 = .ok (.invokevirtual 56, 3) := by decide +kernel
theorem dX3_doMinute_32 : decode cX3_doMinute 32 = .ok (.iconst 0, 1) := by decide +kernel
theorem dX3_doMinute_33 : decode cX3_doMinute 33 = .ok (.istore_n 1, 1) := by decide +kernel
theorem dX3_doMinute_34 : decode cX3_doMinute 34 = .ok (.iload_n 1, 1) := by decide +kernel
theorem dX3_doMinute_35 : decode cX3_doMinute 35 = .ok (.aload_n 0, 1) := by decide +kernel
theorem dX3_doMinute_36 : decode cX3_doMinute 36 = .ok (.getfield 21, 3) := by decide +kernel
theorem dX3_doMinute_39 : decode cX3_doMinute 39 = .ok (.invokevirtual 48, 3) := by decide +kernel
theorem dX3_doMinute_42 : decode cX3_doMinute 42 = .ok (.if_icmp .ge 14, 3) := by decide +kernel
theorem dX3_doMinute_45 : decode cX3_doMinute 45 = .ok (.aload_n 0, 1) := by decide +kernel
theorem dX3_doMinute_46 : decode cX3_doMinute 46 = .ok (.iload_n 1, 1) := by decide +kernel
theorem dX3_doMinute_47 : decode cX3_doMinute 47 = .ok (.invokevirtual 59, 3) := by decide +kernel
theorem dX3_doMinute_50 : decode cX3_doMinute 50 = .ok (.iinc 1 1, 3) := by decide +kernel
theorem dX3_doMinute_53 : decode cX3_doMinute 53 = .ok (.goto (-19), 3) := by decide +kernel
theorem dX3_doMinute_56 : decode cX3_doMinute 56 = .ok (.iconst 0, 1) := by decide +kernel
theorem dX3_doMinute_57 : decode cX3_doMinute 57 = .ok (.istore_n 1, 1) := by decide +kernel
theorem dX3_doMinute_58 : decode cX3_doMinute 58 = .ok (.iload_n 1, 1) := by decide +kernel
theorem dX3_doMinute_59 : decode cX3_doMinute 59 = .ok (.aload_n 0, 1) := by decide +kernel
theorem dX3_doMinute_60 : decode cX3_doMinute 60 = .ok (.getfield 28, 3) := by decide +kernel
theorem dX3_doMinute_63 : decode cX3_doMinute 63 = .ok (.invokevirtual 48, 3) := by decide +kernel
theorem dX3_doMinute_66 : decode cX3_doMinute 66 = .ok (.if_icmp .ge 24, 3) := by decide +kernel
theorem dX3_doMinute_69 : decode cX3_doMinute 69 = .ok (.aload_n 0, 1) := by decide +kernel
theorem dX3_doMinute_70 : decode cX3_doMinute 70 = .ok (.aload_n 0, 1) := by decide +kernel
theorem dX3_doMinute_71 : decode cX3_doMinute 71 = .ok (.getfield 28, 3) := by decide +kernel
theorem dX3_doMinute_74 : decode cX3_doMinute 74 = .ok (.iload_n 1, 1) := by decide +kernel
theorem dX3_doMinute_75 : decode cX3_doMinute 75 = .ok (.invokevirtual 62, 3) := by decide +kernel
theorem dX3_doMinute_78 : decode cX3_doMinute 78 = .ok (.checkcast 66, 3) := by decide +kernel
theorem dX3_doMinute_81 : decode cX3_doMinute 81 = .ok (.invokevirtual 68, 3) := by decide +kernel
theorem dX3_doMinute_84 : decode cX3_doMinute 84 = .ok (.iinc 1 1, 3) := by decide +kernel
theorem dX3_doMinute_87 : decode cX3_doMinute 87 = .ok (.goto (-29), 3) := by decide +kernel
theorem dX3_doMinute_90 : decode cX3_doMinute 90 = .ok (.iconst 0, 1) := by decide +kernel
theorem dX3_doMinute_91 : decode cX3_doMinute 91 = .ok (.istore_n 1, 1) := by decide +kernel
theorem dX3_doMinute_92 : decode cX3_doMinute 92 = .ok (.iload_n 1, 1) := by decide +kernel
theorem dX3_doMinute_93 : decode cX3_doMinute 93 = .ok (.aload_n 0, 1) := by decide +kernel
theorem dX3_doMinute_94 : decode cX3_doMinute 94 = .ok (.getfield 21, 3) := by decide +kernel
theorem dX3_doMinute_97 : decode cX3_doMinute 97 = .ok (.invokevirtual 48, 3) := by decide +kernel
theorem dX3_doMinute_100 : decode cX3_doMinute 100 = .ok (.if_icmp .ge 23, 3) := by decide +kernel
theorem dX3_doMinute_103 : decode cX3_doMinute 103 = .ok (.aload_n 0, 1) := by decide +kernel
theorem dX3_doMinute_104 : decode cX3_doMinute 104 = .ok (.getfield 21, 3) := by decide +kernel
theorem dX3_doMinute_107 : decode cX3_doMinute 107 = .ok (.iload_n 1, 1) := by decide +kernel
theorem dX3_doMinute_108 : decode cX3_doMinute 108 = .ok (.invokevirtual 62, 3) := by decide +kernel
theorem dX3_doMinute_111 : decode cX3_doMinute 111 = .ok (.checkcast 72, 3) := by decide +kernel
theorem dX3_doMinute_114 : decode cX3_doMinute 114 = .ok (.invokevirtual 74, 3) := by decide +kernel
theorem dX3_doMinute_117 : decode cX3_doMinute 117 = .ok (.iinc 1 1, 3) := by decide +kernel
theorem dX3_doMinute_120 : decode cX3_doMinute 120 = .ok (.goto (-28), 3) := by decide +kernel
theorem dX3_doMinute_123 : decode cX3_doMinute 123 = .ok (.aload_n 0, 1) := by decide +kernel
theorem dX3_doMinute_124 : decode cX3_doMinute 124 = .ok (.dup, 1) := by decide +kernel
theorem dX3_doMinute_125 : decode cX3_doMinute 125 = .ok (.getfield 42, 3) := by decide +kernel
theorem dX3_doMinute_128 : decode cX3_doMinute 128 = .ok (.iconst 1, 1) := by decide +kernel
theorem dX3_doMinute_129 : decode cX3_doMinute 129 = .ok (.iadd, 1) := by decide +kernel
theorem dX3_doMinute_130 : decode cX3_doMinute 130 = .ok (.putfield 42, 3) := by decide +kernel
theorem dX3_doMinute_133 : decode cX3_doMinute 133 = .ok (.return_, 1) := by decide +kernel
set_option maxRecDepth 20000 in
theorem ggX3_bringAll_Jx4a65c_size_8abf5 : GoodIn wsX3_bringAll wsJx4a65c_size_8abf5 := goodIn_r _ [12, 13, 73, 74, 75] (by decide +kernel) (by decide +kernel)
set_option maxRecDepth 20000 in
theorem gX3_bringAll_Jx4a65c_size_8abf5 : GoodIn wsX3_bringAll (wsV RX3 48 RJx4a65c yJx4a65c_size_8abf5 wsJx4a65c_size_8abf5) := goodIn_app (goodIn_of _ (by decide +kernel)) ggX3_bringAll_Jx4a65c_size_8abf5
set_option maxRecDepth 20000 in
theorem ggX3_bringAll_Jx4a65c_get_915e3 : GoodIn wsX3_bringAll wsJx4a65c_get_915e3 := goodIn_r _ [17, 13, 18, 19, 20, 21, 22, 23, 24, 25, 26, 27, 28, 11, 29, 30, 73, 74, 75] (by decide +kernel) (by decide +kernel)
set_option maxRecDepth 20000 in
theorem gX3_bringAll_Jx4a65c_get_915e3 : GoodIn wsX3_bringAll (wsV RX3 62 RJx4a65c yJx4a65c_get_915e3 wsJx4a65c_get_915e3) := goodIn_app (goodIn_of _ (by decide +kernel)) ggX3_bringAll_Jx4a65c_get_915e3
set_option maxRecDepth 20000 in
theorem ggX3_bringAll_X4_arrivesIn : GoodIn wsX3_bringAll wsX4_arrivesIn := goodIn_r _ [35, 36, 37, 76, 77, 78, 79, 80, 81, 82, 83] (by decide +kernel) (by decide +kernel)
set_option maxRecDepth 20000 in
theorem gX3_bringAll_X4_arrivesIn : GoodIn wsX3_bringAll (wsV RX3 79 RX4 yX4_arrivesIn wsX4_arrivesIn) := goodIn_app (goodIn_of _ (by decide +kernel)) ggX3_bringAll_X4_arrivesIn
set_option maxRecDepth 20000 in
theorem ggX3_bringAll_X3_bringShip : GoodIn wsX3_bringAll wsX3_bringShip := goodIn_r _ [42, 43, 44, 6, 7, 45, 46, 47, 48, 41, 49, 50, 8, 9, 10, 11, 12, 13, 14, 15, 16, 17, 18, 19, 20, 21, 22, 23, 24, 25, 26, 27, 28, 29, 30, 76, 77, 78, 79, 80, 81, 82, 83, 66, 67, 68, 69, 70, 71, 72, 84, 85, 86, 87, 88, 89, 90, 91, 92, 93, 94, 95, 73, 74, 75] (by decide +kernel) (by decide +kernel)
set_option maxRecDepth 20000 in
theorem gX3_bringAll_X3_bringShip : GoodIn wsX3_bringAll (wsV RX3 83 RX3 yX3_bringShip wsX3_bringShip) := goodIn_app (goodIn_of _ (by decide +kernel)) ggX3_bringAll_X3_bringShip
set_option maxRecDepth 20000 in
theorem ggX3_bringAll_X1_arriveIn : GoodIn wsX3_bringAll wsX1_arriveIn := goodIn_r _ [55, 56, 57, 58, 96, 97, 98] (by decide +kernel) (by decide +kernel)
set_option maxRecDepth 20000 in
theorem gX3_bringAll_X1_arriveIn : GoodIn wsX3_bringAll (wsV RX3 87 RX1 yX1_arriveIn wsX1_arriveIn) := goodIn_app (goodIn_of _ (by decide +kernel)) ggX3_bringAll_X1_arriveIn
set_option maxRecDepth 20000 in
theorem ggX3_bringAll_X0_endTurning : GoodIn wsX3_bringAll wsX0_endTurning := goodIn_r _ [63, 64, 65, 84, 85, 86, 87, 88, 89, 90, 91, 92, 93, 94, 95] (by decide +kernel) (by decide +kernel)
set_option maxRecDepth 20000 in
theorem gX3_bringAll_X0_endTurning : GoodIn wsX3_bringAll (wsV RX3 90 RX0 yX0_endTurning wsX0_endTurning) := goodIn_app (goodIn_of _ (by decide +kernel)) ggX3_bringAll_X0_endTurning
theorem dX3_bringAll_0 : decode cX3_bringAll 0 = .ok (.iconst 0, 1) := by decide +kernel
theorem dX3_bringAll_1 : decode cX3_bringAll 1 = .ok (.istore_n 1, 1) := by decide +kernel
theorem dX3_bringAll_2 : decode cX3_bringAll 2 = .ok (.iload_n 1, 1) := by decide +kernel
theorem dX3_bringAll_3 : decode cX3_bringAll 3 = .ok (.aload_n 0, 1) := by decide +kernel
theorem dX3_bringAll_4 : decode cX3_bringAll 4 = .ok (.getfield 25, 3) := by decide +kernel
theorem dX3_bringAll_7 : decode cX3_bringAll 7 = .ok (.invokevirtual 48, 3) := by decide +kernel
theorem dX3_bringAll_10 : decode cX3_bringAll 10 = .ok (.if_icmp .ge 37, 3) := by decide +kernel
theorem dX3_bringAll_13 : decode cX3_bringAll 13 = .ok (.aload_n 0, 1) := by decide +kernel
theorem dX3_bringAll_14 : decode cX3_bringAll 14 = .ok (.getfield 25, 3) := by decide +kernel
theorem dX3_bringAll_17 : decode cX3_bringAll 17 = .ok (.iload_n 1, 1) := by decide +kernel
theorem dX3_bringAll_18 : decode cX3_bringAll 18 = .ok (.invokevirtual 62, 3) := by decide +kernel
theorem dX3_bringAll_21 : decode cX3_bringAll 21 = .ok (.checkcast 77, 3) := by decide +kernel
theorem dX3_bringAll_24 : decode cX3_bringAll 24 = .ok (.astore_n 2, 1) := by decide +kernel
theorem dX3_bringAll_25 : decode cX3_bringAll 25 = .ok (.aload_n 2, 1) := by decide +kernel
theorem dX3_bringAll_26 : decode cX3_bringAll 26 = .ok (.aload_n 0, 1) := by decide +kernel
theorem dX3_bringAll_27 : decode cX3_bringAll 27 = .ok (.getfield 42, 3) := by decide +kernel
theorem dX3_bringAll_30 : decode cX3_bringAll 30 = .ok (.invokevirtual 79, 3) := by decide +kernel
theorem dX3_bringAll_33 : decode cX3_bringAll 33 = .ok (.ifCond .eq 8, 3) := by decide +kernel
theorem dX3_bringAll_36 : decode cX3_bringAll 36 = .ok (.aload_n 0, 1) := by decide +kernel
theorem dX3_bringAll_37 : decode cX3_bringAll 37 = .ok (.aload_n 2, 1) := by decide +kernel
theorem dX3_bringAll_38 : decode cX3_bringAll 38 = .ok (.invokevirtual 83, 3) := by decide +kernel
theorem dX3_bringAll_41 : decode cX3_bringAll 41 = .ok (.iinc 1 1, 3) := by decide +kernel
theorem dX3_bringAll_44 : decode cX3_bringAll 44 = .ok (.goto (-42), 3) := by decide +kernel
theorem dX3_bringAll_47 : decode cX3_bringAll 47 = .ok (.iconst 0, 1) := by decide +kernel
theorem dX3_bringAll_48 : decode cX3_bringAll 48 = .ok (.istore_n 1, 1) := by decide +kernel
theorem dX3_bringAll_49 : decode cX3_bringAll 49 = .ok (.iload_n 1, 1) := by decide +kernel
theorem dX3_bringAll_50 : decode cX3_bringAll 50 = .ok (.aload_n 0, 1) := by decide +kernel
theorem dX3_bringAll_51 : decode cX3_bringAll 51 = .ok (.getfield 28, 3) := by decide +kernel
theorem dX3_bringAll_54 : decode cX3_bringAll 54 = .ok (.invokevirtual 48, 3) := by decide +kernel
theorem dX3_bringAll_57 : decode cX3_bringAll 57 = .ok (.if_icmp .ge 27, 3) := by decide +kernel
theorem dX3_bringAll_60 : decode cX3_bringAll 60 = .ok (.aload_n 0, 1) := by decide +kernel
theorem dX3_bringAll_61 : decode cX3_bringAll 61 = .ok (.getfield 28, 3) := by decide +kernel
theorem dX3_bringAll_64 : decode cX3_bringAll 64 = .ok (.iload_n 1, 1) := by decide +kernel
theorem dX3_bringAll_65 : decode cX3_bringAll 65 = .ok (.invokevirtual 62, 3) := by decide +kernel
theorem dX3_bringAll_68 : decode cX3_bringAll 68 = .ok (.checkcast 66, 3) := by decide +kernel
theorem dX3_bringAll_71 : decode cX3_bringAll 71 = .ok (.aload_n 0, 1) := by decide +kernel
theorem dX3_bringAll_72 : decode cX3_bringAll 72 = .ok (.getfield 42, 3) := by decide +kernel
theorem dX3_bringAll_75 : decode cX3_bringAll 75 = .ok (.invokevirtual 87, 3) := by decide +kernel
theorem dX3_bringAll_78 : decode cX3_bringAll 78 = .ok (.iinc 1 1, 3) := by decide +kernel
theorem dX3_bringAll_81 : decode cX3_bringAll 81 = .ok (.goto (-32), 3) := by decide +kernel
theorem dX3_bringAll_84 : decode cX3_bringAll 84 = .ok (.iconst 0, 1) := by decide +kernel
theorem dX3_bringAll_85 : decode cX3_bringAll 85 = .ok (.istore_n 1, 1) := by decide +kernel
theorem dX3_bringAll_86 : decode cX3_bringAll 86 = .ok (.iload_n 1, 1) := by decide +kernel
theorem dX3_bringAll_87 : decode cX3_bringAll 87 = .ok (.aload_n 0, 1) := by decide +kernel
theorem dX3_bringAll_88 : decode cX3_bringAll 88 = .ok (.getfield 21, 3) := by decide +kernel
theorem dX3_bringAll_91 : decode cX3_bringAll 91 = .ok (.invokevirtual 48, 3) := by decide +kernel
theorem dX3_bringAll_94 : decode cX3_bringAll 94 = .ok (.if_icmp .ge 27, 3) := by decide +kernel
theorem dX3_bringAll_97 : decode cX3_bringAll 97 = .ok (.aload_n 0, 1) := by decide +kernel
theorem dX3_bringAll_98 : decode cX3_bringAll 98 = .ok (.getfield 21, 3) := by decide +kernel
theorem dX3_bringAll_101 : decode cX3_bringAll 101 = .ok (.iload_n 1, 1) := by decide +kernel
theorem dX3_bringAll_102 : decode cX3_bringAll 102 = .ok (.invokevirtual 62, 3) := by decide +kernel
theorem dX3_bringAll_105 : decode cX3_bringAll 105 = .ok (.checkcast 72, 3) := by decide +kernel
theorem dX3_bringAll_108 : decode cX3_bringAll 108 = .ok (.aload_n 0, 1) := by decide +kernel
theorem dX3_bringAll_109 : decode cX3_bringAll 109 = .ok (.getfield 42, 3) := by decide +kernel
theorem dX3_bringAll_112 : decode cX3_bringAll 112 = .ok (.invokevirtual 90, 3) := by decide +kernel
theorem dX3_bringAll_115 : decode cX3_bringAll 115 = .ok (.iinc 1 1, 3) := by decide +kernel
theorem dX3_bringAll_118 : decode cX3_bringAll 118 = .ok (.goto (-32), 3) := by decide +kernel
theorem dX3_bringAll_121 : decode cX3_bringAll 121 = .ok (.return_, 1) := by decide +kernel
set_option maxRecDepth 20000 in
theorem ggX3_countWaits_Jx4a65c_size_8abf5 : GoodIn wsX3_countWaits wsJx4a65c_size_8abf5 := goodIn_r _ [9, 10, 43, 44, 45] (by decide +kernel) (by decide +kernel)
set_option maxRecDepth 20000 in
theorem gX3_countWaits_Jx4a65c_size_8abf5 : GoodIn wsX3_countWaits (wsV RX3 48 RJx4a65c yJx4a65c_size_8abf5 wsJx4a65c_size_8abf5) := goodIn_app (goodIn_of _ (by decide +kernel)) ggX3_countWaits_Jx4a65c_size_8abf5
set_option maxRecDepth 20000 in
theorem ggX3_countWaits_Jx4a65c_get_915e3 : GoodIn wsX3_countWaits wsJx4a65c_get_915e3 := goodIn_r _ [14, 10, 15, 16, 17, 18, 19, 20, 21, 22, 23, 24, 25, 8, 26, 27, 43, 44, 45] (by decide +kernel) (by decide +kernel)
set_option maxRecDepth 20000 in
theorem gX3_countWaits_Jx4a65c_get_915e3 : GoodIn wsX3_countWaits (wsV RX3 62 RJx4a65c yJx4a65c_get_915e3 wsJx4a65c_get_915e3) := goodIn_app (goodIn_of _ (by decide +kernel)) ggX3_countWaits_Jx4a65c_get_915e3
theorem dX3_countWaits_0 : decode cX3_countWaits 0 = .ok (.iconst 0, 1) := by decide +kernel
theorem dX3_countWaits_1 : decode cX3_countWaits 1 = .ok (.istore_n 1, 1) := by decide +kernel
theorem dX3_countWaits_2 : decode cX3_countWaits 2 = .ok (.iload_n 1, 1) := by decide +kernel
theorem dX3_countWaits_3 : decode cX3_countWaits 3 = .ok (.aload_n 0, 1) := by decide +kernel
theorem dX3_countWaits_4 : decode cX3_countWaits 4 = .ok (.getfield 25, 3) := by decide +kernel
theorem dX3_countWaits_7 : decode cX3_countWaits 7 = .ok (.invokevirtual 48, 3) := by decide +kernel
theorem dX3_countWaits_10 : decode cX3_countWaits 10 = .ok (.if_icmp .ge 39, 3) := by decide +kernel
theorem dX3_countWaits_13 : decode cX3_countWaits 13 = .ok (.aload_n 0, 1) := by decide +kernel
theorem dX3_countWaits_14 : decode cX3_countWaits 14 = .ok (.getfield 25, 3) := by decide +kernel
theorem dX3_countWaits_17 : decode cX3_countWaits 17 = .ok (.iload_n 1, 1) := by decide +kernel
theorem dX3_countWaits_18 : decode cX3_countWaits 18 = .ok (.invokevirtual 62, 3) := by decide +kernel
theorem dX3_countWaits_21 : decode cX3_countWaits 21 = .ok (.checkcast 77, 3) := by decide +kernel
theorem dX3_countWaits_24 : decode cX3_countWaits 24 = .ok (.astore_n 2, 1) := by decide +kernel
theorem dX3_countWaits_25 : decode cX3_countWaits 25 = .ok (.aload_n 2, 1) := by decide +kernel
theorem dX3_countWaits_26 : decode cX3_countWaits 26 = .ok (.getfield 100, 3) := by decide +kernel
theorem dX3_countWaits_29 : decode cX3_countWaits 29 = .ok (.iconst 1, 1) := by decide +kernel
theorem dX3_countWaits_30 : decode cX3_countWaits 30 = .ok (.if_icmp .ne 13, 3) := by decide +kernel
theorem dX3_countWaits_33 : decode cX3_countWaits 33 = .ok (.aload_n 2, 1) := by decide +kernel
theorem dX3_countWaits_34 : decode cX3_countWaits 34 = .ok (.dup, 1) := by decide +kernel
theorem dX3_countWaits_35 : decode cX3_countWaits 35 = .ok (.getfield 161, 3) := by decide +kernel
theorem dX3_countWaits_38 : decode cX3_countWaits 38 = .ok (.iconst 1, 1) := by decide +kernel
theorem dX3_countWaits_39 : decode cX3_countWaits 39 = .ok (.iadd, 1) := by decide +kernel
theorem dX3_countWaits_40 : decode cX3_countWaits 40 = .ok (.putfield 161, 3) := by decide +kernel
theorem dX3_countWaits_43 : decode cX3_countWaits 43 = .ok (.iinc 1 1, 3) := by decide +kernel
theorem dX3_countWaits_46 : decode cX3_countWaits 46 = .ok (.goto (-44), 3) := by decide +kernel
theorem dX3_countWaits_49 : decode cX3_countWaits 49 = .ok (.return_, 1) := by decide +kernel
set_option maxRecDepth 20000 in
theorem ggX3_shipsAllThrough_Jx4a65c_size_8abf5 : GoodIn wsX3_shipsAllThrough wsJx4a65c_size_8abf5 := goodIn_r _ [8, 9, 42, 43, 44] (by decide +kernel) (by decide +kernel)
set_option maxRecDepth 20000 in
theorem gX3_shipsAllThrough_Jx4a65c_size_8abf5 : GoodIn wsX3_shipsAllThrough (wsV RX3 48 RJx4a65c yJx4a65c_size_8abf5 wsJx4a65c_size_8abf5) := goodIn_app (goodIn_of _ (by decide +kernel)) ggX3_shipsAllThrough_Jx4a65c_size_8abf5
set_option maxRecDepth 20000 in
theorem ggX3_shipsAllThrough_Jx4a65c_get_915e3 : GoodIn wsX3_shipsAllThrough wsJx4a65c_get_915e3 := goodIn_r _ [13, 9, 14, 15, 16, 17, 18, 19, 20, 21, 22, 23, 24, 7, 25, 26, 42, 43, 44] (by decide +kernel) (by decide +kernel)
set_option maxRecDepth 20000 in
theorem gX3_shipsAllThrough_Jx4a65c_get_915e3 : GoodIn wsX3_shipsAllThrough (wsV RX3 62 RJx4a65c yJx4a65c_get_915e3 wsJx4a65c_get_915e3) := goodIn_app (goodIn_of _ (by decide +kernel)) ggX3_shipsAllThrough_Jx4a65c_get_915e3
theorem dX3_shipsAllThrough_0 : decode cX3_shipsAllThrough 0 = .ok (.iconst 0, 1) := by decide +kernel
theorem dX3_shipsAllThrough_1 : decode cX3_shipsAllThrough 1 = .ok (.istore_n 1, 1) := by decide +kernel
theorem dX3_shipsAllThrough_2 : decode cX3_shipsAllThrough 2 = .ok (.iconst 0, 1) := by decide +kernel
theorem dX3_shipsAllThrough_3 : decode cX3_shipsAllThrough 3 = .ok (.istore_n 2, 1) := by decide +kernel
theorem dX3_shipsAllThrough_4 : decode cX3_shipsAllThrough 4 = .ok (.iload_n 2, 1) := by decide +kernel
theorem dX3_shipsAllThrough_5 : decode cX3_shipsAllThrough 5 = .ok (.aload_n 0, 1) := by decide +kernel
theorem dX3_shipsAllThrough_6 : decode cX3_shipsAllThrough 6 = .ok (.getfield 25, 3) := by decide +kernel
theorem dX3_shipsAllThrough_9 : decode cX3_shipsAllThrough 9 = .ok (.invokevirtual 48, 3) := by decide +kernel
theorem dX3_shipsAllThrough_12 : decode cX3_shipsAllThrough 12 = .ok (.if_icmp .ge 35, 3) := by decide +kernel
theorem dX3_shipsAllThrough_15 : decode cX3_shipsAllThrough 15 = .ok (.iload_n 1, 1) := by decide +kernel
theorem dX3_shipsAllThrough_16 : decode cX3_shipsAllThrough 16 = .ok (.aload_n 0, 1) := by decide +kernel
theorem dX3_shipsAllThrough_17 : decode cX3_shipsAllThrough 17 = .ok (.getfield 25, 3) := by decide +kernel
theorem dX3_shipsAllThrough_20 : decode cX3_shipsAllThrough 20 = .ok (.iload_n 2, 1) := by decide +kernel
theorem dX3_shipsAllThrough_21 : decode cX3_shipsAllThrough 21 = .ok (.invokevirtual 62, 3) := by decide +kernel
theorem dX3_shipsAllThrough_24 : decode cX3_shipsAllThrough 24 = .ok (.checkcast 77, 3) := by decide +kernel
theorem dX3_shipsAllThrough_27 : decode cX3_shipsAllThrough 27 = .ok (.getfield 100, 3) := by decide +kernel
theorem dX3_shipsAllThrough_30 : decode cX3_shipsAllThrough 30 = .ok (.iconst 3, 1) := by decide +kernel
theorem dX3_shipsAllThrough_31 : decode cX3_shipsAllThrough 31 = .ok (.if_icmp .ne 7, 3) := by decide +kernel
theorem dX3_shipsAllThrough_34 : decode cX3_shipsAllThrough 34 = .ok (.iconst 1, 1) := by decide +kernel
theorem dX3_shipsAllThrough_35 : decode cX3_shipsAllThrough 35 = .ok (.goto 4, 3) := by decide +kernel
theorem dX3_shipsAllThrough_38 : decode cX3_shipsAllThrough 38 = .ok (.iconst 0, 1) := by decide +kernel
theorem dX3_shipsAllThrough_39 : decode cX3_shipsAllThrough 39 = .ok (.iadd, 1) := by decide +kernel
theorem dX3_shipsAllThrough_40 : decode cX3_shipsAllThrough 40 = .ok (.istore_n 1, 1) := by decide +kernel
theorem dX3_shipsAllThrough_41 : decode cX3_shipsAllThrough 41 = .ok (.iinc 2 1, 3) := by decide +kernel
theorem dX3_shipsAllThrough_44 : decode cX3_shipsAllThrough 44 = .ok (.goto (-40), 3) := by decide +kernel
theorem dX3_shipsAllThrough_47 : decode cX3_shipsAllThrough 47 = .ok (.iload_n 1, 1) := by decide +kernel
theorem dX3_shipsAllThrough_48 : decode cX3_shipsAllThrough 48 = .ok (.ireturn, 1) := by decide +kernel
set_option maxRecDepth 20000 in
theorem ggX3_longestWait_Jx4a65c_size_8abf5 : GoodIn wsX3_longestWait wsJx4a65c_size_8abf5 := goodIn_r _ [12, 13, 46, 47, 48] (by decide +kernel) (by decide +kernel)
set_option maxRecDepth 20000 in
theorem gX3_longestWait_Jx4a65c_size_8abf5 : GoodIn wsX3_longestWait (wsV RX3 48 RJx4a65c yJx4a65c_size_8abf5 wsJx4a65c_size_8abf5) := goodIn_app (goodIn_of _ (by decide +kernel)) ggX3_longestWait_Jx4a65c_size_8abf5
set_option maxRecDepth 20000 in
theorem ggX3_longestWait_Jx4a65c_get_915e3 : GoodIn wsX3_longestWait wsJx4a65c_get_915e3 := goodIn_r _ [17, 13, 18, 19, 20, 21, 22, 23, 24, 25, 26, 27, 28, 11, 29, 30, 46, 47, 48] (by decide +kernel) (by decide +kernel)
set_option maxRecDepth 20000 in
theorem gX3_longestWait_Jx4a65c_get_915e3 : GoodIn wsX3_longestWait (wsV RX3 62 RJx4a65c yJx4a65c_get_915e3 wsJx4a65c_get_915e3) := goodIn_app (goodIn_of _ (by decide +kernel)) ggX3_longestWait_Jx4a65c_get_915e3
theorem dX3_longestWait_0 : decode cX3_longestWait 0 = .ok (.iconst 0, 1) := by decide +kernel
theorem dX3_longestWait_1 : decode cX3_longestWait 1 = .ok (.istore_n 1, 1) := by decide +kernel
theorem dX3_longestWait_2 : decode cX3_longestWait 2 = .ok (.iconst 0, 1) := by decide +kernel
theorem dX3_longestWait_3 : decode cX3_longestWait 3 = .ok (.istore_n 2, 1) := by decide +kernel
theorem dX3_longestWait_4 : decode cX3_longestWait 4 = .ok (.iload_n 2, 1) := by decide +kernel
theorem dX3_longestWait_5 : decode cX3_longestWait 5 = .ok (.aload_n 0, 1) := by decide +kernel
theorem dX3_longestWait_6 : decode cX3_longestWait 6 = .ok (.getfield 25, 3) := by decide +kernel
theorem dX3_longestWait_9 : decode cX3_longestWait 9 = .ok (.invokevirtual 48, 3) := by decide +kernel
theorem dX3_longestWait_12 : decode cX3_longestWait 12 = .ok (.if_icmp .ge 28, 3) := by decide +kernel
theorem dX3_longestWait_15 : decode cX3_longestWait 15 = .ok (.iload_n 1, 1) := by decide +kernel
theorem dX3_longestWait_16 : decode cX3_longestWait 16 = .ok (.aload_n 0, 1) := by decide +kernel
theorem dX3_longestWait_17 : decode cX3_longestWait 17 = .ok (.getfield 25, 3) := by decide +kernel
theorem dX3_longestWait_20 : decode cX3_longestWait 20 = .ok (.iload_n 2, 1) := by decide +kernel
theorem dX3_longestWait_21 : decode cX3_longestWait 21 = .ok (.invokevirtual 62, 3) := by decide +kernel
theorem dX3_longestWait_24 : decode cX3_longestWait 24 = .ok (.checkcast 77, 3) := by decide +kernel
theorem dX3_longestWait_27 : decode cX3_longestWait 27 = .ok (.getfield 161, 3) := by decide +kernel
theorem dX3_longestWait_30 : decode cX3_longestWait 30 = .ok (.invokestatic 198, 3) := by decide +kernel
theorem dX3_longestWait_33 : decode cX3_longestWait 33 = .ok (.istore_n 1, 1) := by decide +kernel
theorem dX3_longestWait_34 : decode cX3_longestWait 34 = .ok (.iinc 2 1, 3) := by decide +kernel
theorem dX3_longestWait_37 : decode cX3_longestWait 37 = .ok (.goto (-33), 3) := by decide +kernel
theorem dX3_longestWait_40 : decode cX3_longestWait 40 = .ok (.iload_n 1, 1) := by decide +kernel
theorem dX3_longestWait_41 : decode cX3_longestWait 41 = .ok (.ireturn, 1) := by decide +kernel
theorem dX5_init_0 : decode cX5_init 0 = .ok (.aload_n 0, 1) := by decide +kernel
theorem dX5_init_1 : decode cX5_init 1 = .ok (.invokespecial 1, 3) := by decide +kernel
theorem dX5_init_4 : decode cX5_init 4 = .ok (.aload_n 0, 1) := by decide +kernel
theorem dX5_init_5 : decode cX5_init 5 = .ok (.sipush 440, 3) := by decide +kernel
theorem dX5_init_8 : decode cX5_init 8 = .ok (.newarray .int, 2) := by decide +kernel
theorem dX5_init_10 : decode cX5_init 10 = .ok (.putfield 9, 3) := by decide +kernel
theorem dX5_init_13 : decode cX5_init 13 = .ok (.aload_n 0, 1) := by decide +kernel
theorem dX5_init_14 : decode cX5_init 14 = .ok (.iconst 0, 1) := by decide +kernel
theorem dX5_init_15 : decode cX5_init 15 = .ok (.putfield 13, 3) := by decide +kernel
theorem dX5_init_18 : decode cX5_init 18 = .ok (.return_, 1) := by decide +kernel
theorem dX5_hasRoomForFive_0 : decode cX5_hasRoomForFive 0 = .ok (.aload_n 0, 1) := by decide +kernel
theorem dX5_hasRoomForFive_1 : decode cX5_hasRoomForFive 1 = .ok (.getfield 13, 3) := by decide +kernel
theorem dX5_hasRoomForFive_4 : decode cX5_hasRoomForFive 4 = .ok (.bipush 20, 2) := by decide +kernel
theorem dX5_hasRoomForFive_6 : decode cX5_hasRoomForFive 6 = .ok (.iadd, 1) := by decide +kernel
theorem dX5_hasRoomForFive_7 : decode cX5_hasRoomForFive 7 = .ok (.sipush 440, 3) := by decide +kernel
theorem dX5_hasRoomForFive_10 : decode cX5_hasRoomForFive 10 = .ok (.if_icmp .gt 7, 3) := by decide +kernel
theorem dX5_hasRoomForFive_13 : decode cX5_hasRoomForFive 13 = .ok (.iconst 1, 1) := by decide +kernel
theorem dX5_hasRoomForFive_14 : decode cX5_hasRoomForFive 14 = .ok (.goto 4, 3) := by decide +kernel
theorem dX5_hasRoomForFive_17 : decode cX5_hasRoomForFive 17 = .ok (.iconst 0, 1) := by decide +kernel
theorem dX5_hasRoomForFive_18 : decode cX5_hasRoomForFive 18 = .ok (.ireturn, 1) := by decide +kernel
theorem dX5_append_0 : decode cX5_append 0 = .ok (.bipush 24, 2) := by decide +kernel
theorem dX5_append_2 : decode cX5_append 2 = .ok (.istore_n 2, 1) := by decide +kernel
theorem dX5_append_3 : decode cX5_append 3 = .ok (.iload_n 2, 1) := by decide +kernel
theorem dX5_append_4 : decode cX5_append 4 = .ok (.ifCond .lt 45, 3) := by decide +kernel
theorem dX5_append_7 : decode cX5_append 7 = .ok (.aload_n 0, 1) := by decide +kernel
theorem dX5_append_8 : decode cX5_append 8 = .ok (.getfield 13, 3) := by decide +kernel
theorem dX5_append_11 : decode cX5_append 11 = .ok (.sipush 440, 3) := by decide +kernel
theorem dX5_append_14 : decode cX5_append 14 = .ok (.if_icmp .ge 35, 3) := by decide +kernel
theorem dX5_append_17 : decode cX5_append 17 = .ok (.aload_n 0, 1) := by decide +kernel
theorem dX5_append_18 : decode cX5_append 18 = .ok (.getfield 9, 3) := by decide +kernel
theorem dX5_append_21 : decode cX5_append 21 = .ok (.aload_n 0, 1) := by decide +kernel
theorem dX5_append_22 : decode cX5_append 22 = .ok (.getfield 13, 3) := by decide +kernel
theorem dX5_append_25 : decode cX5_append 25 = .ok (.iload_n 1, 1) := by decide +kernel
theorem dX5_append_26 : decode cX5_append 26 = .ok (.iload_n 2, 1) := by decide +kernel
theorem dX5_append_27 : decode cX5_append 27 = .ok (.iushr, 1) := by decide +kernel
theorem dX5_append_28 : decode cX5_append 28 = .ok (.sipush 255, 3) := by decide +kernel
theorem dX5_append_31 : decode cX5_append 31 = .ok (.iand, 1) := by decide +kernel
theorem dX5_append_32 : decode cX5_append 32 = .ok (.iastore, 1) := by decide +kernel
theorem dX5_append_33 : decode cX5_append 33 = .ok (.aload_n 0, 1) := by decide +kernel
theorem dX5_append_34 : decode cX5_append 34 = .ok (.dup, 1) := by decide +kernel
theorem dX5_append_35 : decode cX5_append 35 = .ok (.getfield 13, 3) := by decide +kernel
theorem dX5_append_38 : decode cX5_append 38 = .ok (.iconst 1, 1) := by decide +kernel
theorem dX5_append_39 : decode cX5_append 39 = .ok (.iadd, 1) := by decide +kernel
theorem dX5_append_40 : decode cX5_append 40 = .ok (.putfield 13, 3) := by decide +kernel
theorem dX5_append_43 : decode cX5_append 43 = .ok (.iinc 2 (-8), 3) := by decide +kernel
theorem dX5_append_46 : decode cX5_append 46 = .ok (.goto (-43), 3) := by decide +kernel
theorem dX5_append_49 : decode cX5_append 49 = .ok (.return_, 1) := by decide +kernel
theorem dX6_init_0 : decode cX6_init 0 = .ok (.aload_n 0, 1) := by decide +kernel
theorem dX6_init_1 : decode cX6_init 1 = .ok (.invokespecial 1, 3) := by decide +kernel
theorem dX6_init_4 : decode cX6_init 4 = .ok (.aload_n 0, 1) := by decide +kernel
theorem dX6_init_5 : decode cX6_init 5 = .ok (.bipush 25, 2) := by decide +kernel
theorem dX6_init_7 : decode cX6_init 7 = .ok (.newarray .int, 2) := by decide +kernel
theorem dX6_init_9 : decode cX6_init 9 = .ok (.putfield 9, 3) := by decide +kernel
theorem dX6_init_12 : decode cX6_init 12 = .ok (.return_, 1) := by decide +kernel
theorem dX6_takeFrom_0 : decode cX6_takeFrom 0 = .ok (.aload_n 1, 1) := by decide +kernel
theorem dX6_takeFrom_1 : decode cX6_takeFrom 1 = .ok (.getfield 13, 3) := by decide +kernel
theorem dX6_takeFrom_4 : decode cX6_takeFrom 4 = .ok (.bipush 25, 2) := by decide +kernel
theorem dX6_takeFrom_6 : decode cX6_takeFrom 6 = .ok (.if_icmp .eq 5, 3) := by decide +kernel
theorem dX6_takeFrom_9 : decode cX6_takeFrom 9 = .ok (.iconst 0, 1) := by decide +kernel
theorem dX6_takeFrom_10 : decode cX6_takeFrom 10 = .ok (.ireturn, 1) := by decide +kernel
theorem dX6_takeFrom_11 : decode cX6_takeFrom 11 = .ok (.iconst 0, 1) := by decide +kernel
theorem dX6_takeFrom_12 : decode cX6_takeFrom 12 = .ok (.istore_n 2, 1) := by decide +kernel
theorem dX6_takeFrom_13 : decode cX6_takeFrom 13 = .ok (.iload_n 2, 1) := by decide +kernel
theorem dX6_takeFrom_14 : decode cX6_takeFrom 14 = .ok (.bipush 25, 2) := by decide +kernel
theorem dX6_takeFrom_16 : decode cX6_takeFrom 16 = .ok (.if_icmp .ge 22, 3) := by decide +kernel
theorem dX6_takeFrom_19 : decode cX6_takeFrom 19 = .ok (.aload_n 1, 1) := by decide +kernel
theorem dX6_takeFrom_20 : decode cX6_takeFrom 20 = .ok (.getfield 19, 3) := by decide +kernel
theorem dX6_takeFrom_23 : decode cX6_takeFrom 23 = .ok (.iload_n 2, 1) := by decide +kernel
theorem dX6_takeFrom_24 : decode cX6_takeFrom 24 = .ok (.iaload, 1) := by decide +kernel
theorem dX6_takeFrom_25 : decode cX6_takeFrom 25 = .ok (.bipush 100, 2) := by decide +kernel
theorem dX6_takeFrom_27 : decode cX6_takeFrom 27 = .ok (.if_icmp .le 5, 3) := by decide +kernel
theorem dX6_takeFrom_30 : decode cX6_takeFrom 30 = .ok (.iconst 0, 1) := by decide +kernel
theorem dX6_takeFrom_31 : decode cX6_takeFrom 31 = .ok (.ireturn, 1) := by decide +kernel
theorem dX6_takeFrom_32 : decode cX6_takeFrom 32 = .ok (.iinc 2 1, 3) := by decide +kernel
theorem dX6_takeFrom_35 : decode cX6_takeFrom 35 = .ok (.goto (-22), 3) := by decide +kernel
theorem dX6_takeFrom_38 : decode cX6_takeFrom 38 = .ok (.aload_n 1, 1) := by decide +kernel
theorem dX6_takeFrom_39 : decode cX6_takeFrom 39 = .ok (.getfield 19, 3) := by decide +kernel
theorem dX6_takeFrom_42 : decode cX6_takeFrom 42 = .ok (.iconst 0, 1) := by decide +kernel
theorem dX6_takeFrom_43 : decode cX6_takeFrom 43 = .ok (.aload_n 0, 1) := by decide +kernel
theorem dX6_takeFrom_44 : decode cX6_takeFrom 44 = .ok (.getfield 9, 3) := by decide +kernel
theorem dX6_takeFrom_47 : decode cX6_takeFrom 47 = .ok (.iconst 0, 1) := by decide +kernel
theorem dX6_takeFrom_48 : decode cX6_takeFrom 48 = .ok (.bipush 25, 2) := by decide +kernel
theorem dX6_takeFrom_50 : decode cX6_takeFrom 50 = .ok (.invokestatic 22, 3) := by decide +kernel
theorem dX6_takeFrom_53 : decode cX6_takeFrom 53 = .ok (.iconst 1, 1) := by decide +kernel
theorem dX6_takeFrom_54 : decode cX6_takeFrom 54 = .ok (.ireturn, 1) := by decide +kernel
theorem dX6_levelIn_0 : decode cX6_levelIn 0 = .ok (.iload_n 1, 1) := by decide +kernel
theorem dX6_levelIn_1 : decode cX6_levelIn 1 = .ok (.bipush 60, 2) := by decide +kernel
theorem dX6_levelIn_3 : decode cX6_levelIn 3 = .ok (.idiv, 1) := by decide +kernel
theorem dX6_levelIn_4 : decode cX6_levelIn 4 = .ok (.istore_n 2, 1) := by decide +kernel
theorem dX6_levelIn_5 : decode cX6_levelIn 5 = .ok (.iload_n 1, 1) := by decide +kernel
theorem dX6_levelIn_6 : decode cX6_levelIn 6 = .ok (.bipush 60, 2) := by decide +kernel
theorem dX6_levelIn_8 : decode cX6_levelIn 8 = .ok (.irem, 1) := by decide +kernel
theorem dX6_levelIn_9 : decode cX6_levelIn 9 = .ok (.istore_n 3, 1) := by decide +kernel
theorem dX6_levelIn_10 : decode cX6_levelIn 10 = .ok (.iload_n 3, 1) := by decide +kernel
theorem dX6_levelIn_11 : decode cX6_levelIn 11 = .ok (.ifCond .ne 10, 3) := by decide +kernel
theorem dX6_levelIn_14 : decode cX6_levelIn 14 = .ok (.aload_n 0, 1) := by decide +kernel
theorem dX6_levelIn_15 : decode cX6_levelIn 15 = .ok (.getfield 9, 3) := by decide +kernel
theorem dX6_levelIn_18 : decode cX6_levelIn 18 = .ok (.iload_n 2, 1) := by decide +kernel
theorem dX6_levelIn_19 : decode cX6_levelIn 19 = .ok (.iaload, 1) := by decide +kernel
theorem dX6_levelIn_20 : decode cX6_levelIn 20 = .ok (.ireturn, 1) := by decide +kernel
theorem dX6_levelIn_21 : decode cX6_levelIn 21 = .ok (.aload_n 0, 1) := by decide +kernel
theorem dX6_levelIn_22 : decode cX6_levelIn 22 = .ok (.getfield 9, 3) := by decide +kernel
theorem dX6_levelIn_25 : decode cX6_levelIn 25 = .ok (.iload_n 2, 1) := by decide +kernel
theorem dX6_levelIn_26 : decode cX6_levelIn 26 = .ok (.iaload, 1) := by decide +kernel
theorem dX6_levelIn_27 : decode cX6_levelIn 27 = .ok (.aload_n 0, 1) := by decide +kernel
theorem dX6_levelIn_28 : decode cX6_levelIn 28 = .ok (.getfield 9, 3) := by decide +kernel
theorem dX6_levelIn_31 : decode cX6_levelIn 31 = .ok (.iload_n 2, 1) := by decide +kernel
theorem dX6_levelIn_32 : decode cX6_levelIn 32 = .ok (.iconst 1, 1) := by decide +kernel
theorem dX6_levelIn_33 : decode cX6_levelIn 33 = .ok (.iadd, 1) := by decide +kernel
theorem dX6_levelIn_34 : decode cX6_levelIn 34 = .ok (.iaload, 1) := by decide +kernel
theorem dX6_levelIn_35 : decode cX6_levelIn 35 = .ok (.aload_n 0, 1) := by decide +kernel
theorem dX6_levelIn_36 : decode cX6_levelIn 36 = .ok (.getfield 9, 3) := by decide +kernel
theorem dX6_levelIn_39 : decode cX6_levelIn 39 = .ok (.iload_n 2, 1) := by decide +kernel
theorem dX6_levelIn_40 : decode cX6_levelIn 40 = .ok (.iaload, 1) := by decide +kernel
theorem dX6_levelIn_41 : decode cX6_levelIn 41 = .ok (.isub, 1) := by decide +kernel
theorem dX6_levelIn_42 : decode cX6_levelIn 42 = .ok (.iload_n 3, 1) := by decide +kernel
theorem dX6_levelIn_43 : decode cX6_levelIn 43 = .ok (.imul, 1) := by decide +kernel
theorem dX6_levelIn_44 : decode cX6_levelIn 44 = .ok (.bipush 60, 2) := by decide +kernel
theorem dX6_levelIn_46 : decode cX6_levelIn 46 = .ok (.idiv, 1) := by decide +kernel
theorem dX6_levelIn_47 : decode cX6_levelIn 47 = .ok (.iadd, 1) := by decide +kernel
theorem dX6_levelIn_48 : decode cX6_levelIn 48 = .ok (.ireturn, 1) := by decide +kernel
theorem dX7_init_0 : decode cX7_init 0 = .ok (.aload_n 0, 1) := by decide +kernel
theorem dX7_init_1 : decode cX7_init 1 = .ok (.invokespecial 3, 3) := by decide +kernel
theorem dX7_init_4 : decode cX7_init 4 = .ok (.aload_n 0, 1) := by decide +kernel
theorem dX7_init_5 : decode cX7_init 5 = .ok (.bipush 8, 2) := by decide +kernel
theorem dX7_init_7 : decode cX7_init 7 = .ok (.bipush 12, 2) := by decide +kernel
theorem dX7_init_9 : decode cX7_init 9 = .ok (.multianewarray 11 2, 4) := by decide +kernel
theorem dX7_init_13 : decode cX7_init 13 = .ok (.putfield 13, 3) := by decide +kernel
theorem dX7_init_16 : decode cX7_init 16 = .ok (.aload_n 0, 1) := by decide +kernel
theorem dX7_init_17 : decode cX7_init 17 = .ok (.bipush 8, 2) := by decide +kernel
theorem dX7_init_19 : decode cX7_init 19 = .ok (.bipush 12, 2) := by decide +kernel
theorem dX7_init_21 : decode cX7_init 21 = .ok (.multianewarray 11 2, 4) := by decide +kernel
theorem dX7_init_25 : decode cX7_init 25 = .ok (.putfield 16, 3) := by decide +kernel
theorem dX7_init_28 : decode cX7_init 28 = .ok (.aload_n 0, 1) := by decide +kernel
theorem dX7_init_29 : decode cX7_init 29 = .ok (.bipush 8, 2) := by decide +kernel
theorem dX7_init_31 : decode cX7_init 31 = .ok (.newarray .int, 2) := by decide +kernel
theorem dX7_init_33 : decode cX7_init 33 = .ok (.putfield 19, 3) := by decide +kernel
theorem dX7_init_36 : decode cX7_init 36 = .ok (.aload_n 0, 1) := by decide +kernel
theorem dX7_init_37 : decode cX7_init 37 = .ok (.bipush 8, 2) := by decide +kernel
theorem dX7_init_39 : decode cX7_init 39 = .ok (.newarray .boolean, 2) := by decide +kernel
theorem dX7_init_41 : decode cX7_init 41 = .ok (.putfield 23, 3) := by decide +kernel
theorem dX7_init_44 : decode cX7_init 44 = .ok (.aload_n 0, 1) := by decide +kernel
theorem dX7_init_45 : decode cX7_init 45 = .ok (.iconst 0, 1) := by decide +kernel
theorem dX7_init_46 : decode cX7_init 46 = .ok (.putfield 27, 3) := by decide +kernel
theorem dX7_init_49 : decode cX7_init 49 = .ok (.return_, 1) := by decide +kernel
theorem dX7_clear_0 : decode cX7_clear 0 = .ok (.iconst 0, 1) := by decide +kernel
theorem dX7_clear_1 : decode cX7_clear 1 = .ok (.istore_n 1, 1) := by decide +kernel
theorem dX7_clear_2 : decode cX7_clear 2 = .ok (.iload_n 1, 1) := by decide +kernel
theorem dX7_clear_3 : decode cX7_clear 3 = .ok (.bipush 8, 2) := by decide +kernel
theorem dX7_clear_5 : decode cX7_clear 5 = .ok (.if_icmp .ge 23, 3) := by decide +kernel
theorem dX7_clear_8 : decode cX7_clear 8 = .ok (.aload_n 0, 1) := by decide +kernel
theorem dX7_clear_9 : decode cX7_clear 9 = .ok (.getfield 19, 3) := by decide +kernel
theorem dX7_clear_12 : decode cX7_clear 12 = .ok (.iload_n 1, 1) := by decide +kernel
theorem dX7_clear_13 : decode cX7_clear 13 = .ok (.iconst 0, 1) := by decide +kernel
theorem dX7_clear_14 : decode cX7_clear 14 = .ok (.iastore, 1) := by decide +kernel
theorem dX7_clear_15 : decode cX7_clear 15 = .ok (.aload_n 0, 1) := by decide +kernel
theorem dX7_clear_16 : decode cX7_clear 16 = .ok (.getfield 23, 3) := by decide +kernel
theorem dX7_clear_19 : decode cX7_clear 19 = .ok (.iload_n 1, 1) := by decide +kernel
theorem dX7_clear_20 : decode cX7_clear 20 = .ok (.iconst 0, 1) := by decide +kernel
theorem dX7_clear_21 : decode cX7_clear 21 = .ok (.bastore, 1) := by decide +kernel
theorem dX7_clear_22 : decode cX7_clear 22 = .ok (.iinc 1 1, 3) := by decide +kernel
theorem dX7_clear_25 : decode cX7_clear 25 = .ok (.goto (-23), 3) := by decide +kernel
theorem dX7_clear_28 : decode cX7_clear 28 = .ok (.aload_n 0, 1) := by decide +kernel
theorem dX7_clear_29 : decode cX7_clear 29 = .ok (.iconst 0, 1) := by decide +kernel
theorem dX7_clear_30 : decode cX7_clear 30 = .ok (.putfield 27, 3) := by decide +kernel
theorem dX7_clear_33 : decode cX7_clear 33 = .ok (.return_, 1) := by decide +kernel
set_option maxRecDepth 20000 in
theorem ggX8_init_X2_init : GoodIn wsX8_init wsX2_init := goodIn_r _ [20, 21, 2, 3, 22, 23, 24, 25, 26, 27, 28, 29, 30, 31, 32, 33, 34, 35, 36, 37, 38, 39, 40, 114, 115, 87, 88, 89, 90, 91, 92, 93, 94, 95, 96] (by decide +kernel) (by decide +kernel)
set_option maxRecDepth 20000 in
theorem gX8_init_X2_init_n9 : GoodIn wsX8_init (wsX2_init) := ggX8_init_X2_init
set_option maxRecDepth 20000 in
theorem ggX8_init_X3_init : GoodIn wsX8_init wsX3_init := goodIn_r _ [42, 43, 2, 3, 44, 45, 46, 47, 48, 49, 50, 51, 52, 53, 54, 15, 16, 55, 56, 57, 58, 59, 60, 38, 61, 62, 63, 64, 65, 66, 67, 68, 69, 70, 71, 72, 73, 74, 75, 76, 77, 78, 79, 80, 81, 82, 83, 84, 85, 86, 116, 102, 103, 104, 105, 106, 107, 108, 117, 118, 119, 109, 110, 111, 112, 113] (by decide +kernel) (by decide +kernel)
set_option maxRecDepth 20000 in
theorem gX8_init_X3_init_n23 : GoodIn wsX8_init (wsX3_init) := ggX8_init_X3_init
set_option maxRecDepth 20000 in
theorem ggX8_init_X7_init : GoodIn wsX8_init wsX7_init := goodIn_r _ [78, 79, 2, 3, 80, 38, 81, 82, 83, 84, 85, 86, 109, 110, 111, 112, 113] (by decide +kernel) (by decide +kernel)
set_option maxRecDepth 20000 in
theorem gX8_init_X7_init_n30 : GoodIn wsX8_init (wsX7_init) := ggX8_init_X7_init
theorem dX8_init_0 : decode cX8_init 0 = .ok (.aload_n 0, 1) := by decide +kernel
theorem dX8_init_1 : decode cX8_init 1 = .ok (.invokespecial 1, 3) := by decide +kernel
theorem dX8_init_4 : decode cX8_init 4 = .ok (.aload_n 0, 1) := by decide +kernel
theorem dX8_init_5 : decode cX8_init 5 = .ok (.new 7, 3) := by decide +kernel
theorem dX8_init_8 : decode cX8_init 8 = .ok (.dup, 1) := by decide +kernel
theorem dX8_init_9 : decode cX8_init 9 = .ok (.invokespecial 9, 3) := by decide +kernel
theorem dX8_init_12 : decode cX8_init 12 = .ok (.putfield 10, 3) := by decide +kernel
theorem dX8_init_15 : decode cX8_init 15 = .ok (.aload_n 0, 1) := by decide +kernel
theorem dX8_init_16 : decode cX8_init 16 = .ok (.aload_n 0, 1) := by decide +kernel
theorem dX8_init_17 : decode cX8_init 17 = .ok (.getfield 10, 3) := by decide +kernel
theorem dX8_init_20 : decode cX8_init 20 = .ok (.getfield 16, 3) := by decide +kernel
theorem dX8_init_23 : decode cX8_init 23 = .ok (.putfield 20, 3) := by decide +kernel
theorem dX8_init_26 : decode cX8_init 26 = .ok (.aload_n 0, 1) := by decide +kernel
theorem dX8_init_27 : decode cX8_init 27 = .ok (.new 21, 3) := by decide +kernel
theorem dX8_init_30 : decode cX8_init 30 = .ok (.dup, 1) := by decide +kernel
theorem dX8_init_31 : decode cX8_init 31 = .ok (.invokespecial 23, 3) := by decide +kernel
theorem dX8_init_34 : decode cX8_init 34 = .ok (.putfield 24, 3) := by decide +kernel
theorem dX8_init_37 : decode cX8_init 37 = .ok (.aload_n 0, 1) := by decide +kernel
theorem dX8_init_38 : decode cX8_init 38 = .ok (.new 28, 3) := by decide +kernel
theorem dX8_init_41 : decode cX8_init 41 = .ok (.dup, 1) := by decide +kernel
theorem dX8_init_42 : decode cX8_init 42 = .ok (.invokespecial 30, 3) := by decide +kernel
theorem dX8_init_45 : decode cX8_init 45 = .ok (.putfield 31, 3) := by decide +kernel
theorem dX8_init_48 : decode cX8_init 48 = .ok (.aload_n 0, 1) := by decide +kernel
theorem dX8_init_49 : decode cX8_init 49 = .ok (.iconst 0, 1) := by decide +kernel
theorem dX8_init_50 : decode cX8_init 50 = .ok (.putfield 35, 3) := by decide +kernel
theorem dX8_init_53 : decode cX8_init 53 = .ok (.return_, 1) := by decide +kernel
set_option maxRecDepth 20000 in
theorem ggX8_feed_X5_hasRoomForFive : GoodIn wsX8_feed wsX5_hasRoomForFive := goodIn_r _ [7, 8, 19, 20] (by decide +kernel) (by decide +kernel)
set_option maxRecDepth 20000 in
theorem gX8_feed_X5_hasRoomForFive : GoodIn wsX8_feed (wsV RX8 39 RX5 yX5_hasRoomForFive wsX5_hasRoomForFive) := goodIn_app (goodIn_of _ (by decide +kernel)) ggX8_feed_X5_hasRoomForFive
set_option maxRecDepth 20000 in
theorem ggX8_feed_X5_append : GoodIn wsX8_feed wsX5_append := goodIn_r _ [12, 8, 13, 19, 20] (by decide +kernel) (by decide +kernel)
set_option maxRecDepth 20000 in
theorem gX8_feed_X5_append : GoodIn wsX8_feed (wsV RX8 45 RX5 yX5_append wsX5_append) := goodIn_app (goodIn_of _ (by decide +kernel)) ggX8_feed_X5_append
theorem dX8_feed_0 : decode cX8_feed 0 = .ok (.aload_n 0, 1) := by decide +kernel
theorem dX8_feed_1 : decode cX8_feed 1 = .ok (.getfield 20, 3) := by decide +kernel
theorem dX8_feed_4 : decode cX8_feed 4 = .ok (.invokevirtual 39, 3) := by decide +kernel
theorem dX8_feed_7 : decode cX8_feed 7 = .ok (.ifCond .ne 5, 3) := by decide +kernel
theorem dX8_feed_10 : decode cX8_feed 10 = .ok (.iconst (-1), 1) := by decide +kernel
theorem dX8_feed_11 : decode cX8_feed 11 = .ok (.ireturn, 1) := by decide +kernel
theorem dX8_feed_12 : decode cX8_feed 12 = .ok (.aload_n 0, 1) := by decide +kernel
theorem dX8_feed_13 : decode cX8_feed 13 = .ok (.getfield 20, 3) := by decide +kernel
theorem dX8_feed_16 : decode cX8_feed 16 = .ok (.iload_n 1, 1) := by decide +kernel
theorem dX8_feed_17 : decode cX8_feed 17 = .ok (.invokevirtual 45, 3) := by decide +kernel
theorem dX8_feed_20 : decode cX8_feed 20 = .ok (.aload_n 0, 1) := by decide +kernel
theorem dX8_feed_21 : decode cX8_feed 21 = .ok (.getfield 20, 3) := by decide +kernel
theorem dX8_feed_24 : decode cX8_feed 24 = .ok (.iload_n 2, 1) := by decide +kernel
theorem dX8_feed_25 : decode cX8_feed 25 = .ok (.invokevirtual 45, 3) := by decide +kernel
theorem dX8_feed_28 : decode cX8_feed 28 = .ok (.aload_n 0, 1) := by decide +kernel
theorem dX8_feed_29 : decode cX8_feed 29 = .ok (.getfield 20, 3) := by decide +kernel
theorem dX8_feed_32 : decode cX8_feed 32 = .ok (.iload_n 3, 1) := by decide +kernel
theorem dX8_feed_33 : decode cX8_feed 33 = .ok (.invokevirtual 45, 3) := by decide +kernel
theorem dX8_feed_36 : decode cX8_feed 36 = .ok (.aload_n 0, 1) := by decide +kernel
theorem dX8_feed_37 : decode cX8_feed 37 = .ok (.getfield 20, 3) := by decide +kernel
theorem dX8_feed_40 : decode cX8_feed 40 = .ok (.iload 4, 2) := by decide +kernel
theorem dX8_feed_42 : decode cX8_feed 42 = .ok (.invokevirtual 45, 3) := by decide +kernel
theorem dX8_feed_45 : decode cX8_feed 45 = .ok (.aload_n 0, 1) := by decide +kernel
theorem dX8_feed_46 : decode cX8_feed 46 = .ok (.getfield 20, 3) := by decide +kernel
theorem dX8_feed_49 : decode cX8_feed 49 = .ok (.iload 5, 2) := by decide +kernel
theorem dX8_feed_51 : decode cX8_feed 51 = .ok (.invokevirtual 45, 3) := by decide +kernel
theorem dX8_feed_54 : decode cX8_feed 54 = .ok (.aload_n 0, 1) := by decide +kernel
theorem dX8_feed_55 : decode cX8_feed 55 = .ok (.getfield 20, 3) := by decide +kernel
theorem dX8_feed_58 : decode cX8_feed 58 = .ok (.getfield 49, 3) := by decide +kernel
theorem dX8_feed_61 : decode cX8_feed 61 = .ok (.ireturn, 1) := by decide +kernel
set_option maxRecDepth 20000 in
theorem ggX8_end_X8_isWithin : GoodIn wsX8_end wsX8_isWithin := goodIn_r _ [6] (by decide +kernel) (by decide +kernel)
set_option maxRecDepth 20000 in
theorem gX8_end_X8_isWithin : GoodIn wsX8_end (va_wsS RX8 52 yX8_isWithin wsX8_isWithin) := goodIn_app (goodIn_of _ (by decide +kernel)) ggX8_end_X8_isWithin
theorem dX8_end_0 : decode cX8_end 0 = .ok (.iload_n 1, 1) := by decide +kernel
theorem dX8_end_1 : decode cX8_end 1 = .ok (.iconst 0, 1) := by decide +kernel
theorem dX8_end_2 : decode cX8_end 2 = .ok (.aload_n 0, 1) := by decide +kernel
theorem dX8_end_3 : decode cX8_end 3 = .ok (.getfield 20, 3) := by decide +kernel
theorem dX8_end_6 : decode cX8_end 6 = .ok (.getfield 49, 3) := by decide +kernel
theorem dX8_end_9 : decode cX8_end 9 = .ok (.invokestatic 52, 3) := by decide +kernel
theorem dX8_end_12 : decode cX8_end 12 = .ok (.ifCond .ne 5, 3) := by decide +kernel
theorem dX8_end_15 : decode cX8_end 15 = .ok (.iconst 0, 1) := by decide +kernel
theorem dX8_end_16 : decode cX8_end 16 = .ok (.ireturn, 1) := by decide +kernel
theorem dX8_end_17 : decode cX8_end 17 = .ok (.aload_n 0, 1) := by decide +kernel
theorem dX8_end_18 : decode cX8_end 18 = .ok (.getfield 20, 3) := by decide +kernel
theorem dX8_end_21 : decode cX8_end 21 = .ok (.iload_n 1, 1) := by decide +kernel
theorem dX8_end_22 : decode cX8_end 22 = .ok (.putfield 49, 3) := by decide +kernel
theorem dX8_end_25 : decode cX8_end 25 = .ok (.iconst 1, 1) := by decide +kernel
theorem dX8_end_26 : decode cX8_end 26 = .ok (.ireturn, 1) := by decide +kernel
set_option maxRecDepth 20000 in
theorem ggX8_bridge_Jx4a65c_size_8abf5 : GoodIn wsX8_bridge wsJx4a65c_size_8abf5 := goodIn_r _ [11, 12, 113, 114, 115] (by decide +kernel) (by decide +kernel)
set_option maxRecDepth 20000 in
theorem gX8_bridge_Jx4a65c_size_8abf5 : GoodIn wsX8_bridge (wsV RX8 63 RJx4a65c yJx4a65c_size_8abf5 wsJx4a65c_size_8abf5) := goodIn_app (goodIn_of _ (by decide +kernel)) ggX8_bridge_Jx4a65c_size_8abf5
set_option maxRecDepth 20000 in
theorem ggX8_bridge_X8_isWithin : GoodIn wsX8_bridge wsX8_isWithin := goodIn_r _ [16] (by decide +kernel) (by decide +kernel)
set_option maxRecDepth 20000 in
theorem gX8_bridge_X8_isWithin : GoodIn wsX8_bridge (va_wsS RX8 52 yX8_isWithin wsX8_isWithin) := goodIn_app (goodIn_of _ (by decide +kernel)) ggX8_bridge_X8_isWithin
set_option maxRecDepth 20000 in
theorem ggX8_bridge_X0_init : GoodIn wsX8_bridge wsX0_init := goodIn_r _ [19, 20, 21, 22, 23, 24, 25, 26, 27, 28, 29, 30, 31, 32, 33, 34, 101, 102, 103, 104, 105, 106, 107, 108, 109, 110, 111, 112] (by decide +kernel) (by decide +kernel)
set_option maxRecDepth 20000 in
theorem gX8_bridge_X0_init : GoodIn wsX8_bridge (wsX0_init) := ggX8_bridge_X0_init
set_option maxRecDepth 20000 in
theorem ggX8_bridge_Jx4a65c_add_9ea2d : GoodIn wsX8_bridge wsJx4a65c_add_9ea2d := goodIn_r _ [38, 39, 40, 41, 12, 42, 43, 44, 10, 45, 46, 47, 48, 49, 50, 51, 52, 53, 54, 55, 56, 57, 58, 59, 60, 61, 62, 63, 64, 65, 66, 67, 68, 69, 70, 71, 72, 73, 74, 75, 76, 77, 78, 79, 80, 81, 82, 83, 84, 85, 86, 87, 88, 113, 114, 115] (by decide +kernel) (by decide +kernel)
set_option maxRecDepth 20000 in
theorem gX8_bridge_Jx4a65c_add_9ea2d : GoodIn wsX8_bridge (wsV RX8 73 RJx4a65c yJx4a65c_add_9ea2d wsJx4a65c_add_9ea2d) := goodIn_app (goodIn_of _ (by decide +kernel)) ggX8_bridge_Jx4a65c_add_9ea2d
theorem dX8_bridge_0 : decode cX8_bridge 0 = .ok (.aload_n 0, 1) := by decide +kernel
theorem dX8_bridge_1 : decode cX8_bridge 1 = .ok (.getfield 24, 3) := by decide +kernel
theorem dX8_bridge_4 : decode cX8_bridge 4 = .ok (.getfield 56, 3) := by decide +kernel
theorem dX8_bridge_7 : decode cX8_bridge 7 = .ok (.ifCond .ne 18, 3) := by decide +kernel
theorem dX8_bridge_10 : decode cX8_bridge 10 = .ok (.aload_n 0, 1) := by decide +kernel
theorem dX8_bridge_11 : decode cX8_bridge 11 = .ok (.getfield 24, 3) := by decide +kernel
theorem dX8_bridge_14 : decode cX8_bridge 14 = .ok (.getfield 59, 3) := by decide +kernel
theorem dX8_bridge_17 : decode cX8_bridge 17 = .ok (.invokevirtual 63, 3) := by decide +kernel
theorem dX8_bridge_20 : decode cX8_bridge 20 = .ok (.bipush 8, 2) := by decide +kernel
theorem dX8_bridge_22 : decode cX8_bridge 22 = .ok (.if_icmp .lt 5, 3) := by decide +kernel
theorem dX8_bridge_25 : decode cX8_bridge 25 = .ok (.iconst (-1), 1) := by decide +kernel
theorem dX8_bridge_26 : decode cX8_bridge 26 = .ok (.ireturn, 1) := by decide +kernel
theorem dX8_bridge_27 : decode cX8_bridge 27 = .ok (.iload_n 1, 1) := by decide +kernel
theorem dX8_bridge_28 : decode cX8_bridge 28 = .ok (.iconst 0, 1) := by decide +kernel
theorem dX8_bridge_29 : decode cX8_bridge 29 = .ok (.sipush 400, 3) := by decide +kernel
theorem dX8_bridge_32 : decode cX8_bridge 32 = .ok (.invokestatic 52, 3) := by decide +kernel
theorem dX8_bridge_35 : decode cX8_bridge 35 = .ok (.ifCond .eq 23, 3) := by decide +kernel
theorem dX8_bridge_38 : decode cX8_bridge 38 = .ok (.iload_n 2, 1) := by decide +kernel
theorem dX8_bridge_39 : decode cX8_bridge 39 = .ok (.iconst 1, 1) := by decide +kernel
theorem dX8_bridge_40 : decode cX8_bridge 40 = .ok (.bipush 9, 2) := by decide +kernel
theorem dX8_bridge_42 : decode cX8_bridge 42 = .ok (.invokestatic 52, 3) := by decide +kernel
theorem dX8_bridge_45 : decode cX8_bridge 45 = .ok (.ifCond .eq 13, 3) := by decide +kernel
theorem dX8_bridge_48 : decode cX8_bridge 48 = .ok (.iload_n 3, 1) := by decide +kernel
