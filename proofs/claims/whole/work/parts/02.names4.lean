theorem dX8_takesNumber_94 : decode cX8_takesNumber 94 = .ok (.iconst 0, 1) := by decide +kernel
theorem dX8_takesNumber_95 : decode cX8_takesNumber 95 = .ok (.ireturn, 1) := by decide +kernel
theorem dX8_takesNumber_96 : decode cX8_takesNumber 96 = .ok (.aload_n 0, 1) := by decide +kernel
theorem dX8_takesNumber_97 : decode cX8_takesNumber 97 = .ok (.aload_n 0, 1) := by decide +kernel
theorem dX8_takesNumber_98 : decode cX8_takesNumber 98 = .ok (.getfield 89, 3) := by decide +kernel
theorem dX8_takesNumber_101 : decode cX8_takesNumber 101 = .ok (.invokevirtual 103, 3) := by decide +kernel
theorem dX8_takesNumber_104 : decode cX8_takesNumber 104 = .ok (.ifCond .ne 7, 3) := by decide +kernel
theorem dX8_takesNumber_107 : decode cX8_takesNumber 107 = .ok (.iconst 1, 1) := by decide +kernel
theorem dX8_takesNumber_108 : decode cX8_takesNumber 108 = .ok (.goto 4, 3) := by decide +kernel
theorem dX8_takesNumber_111 : decode cX8_takesNumber 111 = .ok (.iconst 0, 1) := by decide +kernel
theorem dX8_takesNumber_112 : decode cX8_takesNumber 112 = .ok (.ireturn, 1) := by decide +kernel
set_option maxRecDepth 20000 in
theorem ggX8_takesMark_X8_takesNumber : GoodIn wsX8_takesMark wsX8_takesNumber := goodIn_r _ [6, 7, 1, 8, 9, 10, 11, 5, 12, 13, 14, 15, 16, 17, 18, 19, 20, 21, 22, 36, 37, 38, 39, 40, 41, 42, 43, 44, 45, 46, 47, 48, 49, 50] (by decide +kernel) (by decide +kernel)
set_option maxRecDepth 20000 in
theorem gX8_takesMark_X8_takesNumber : GoodIn wsX8_takesMark (wsV RX8 106 RX8 yX8_takesNumber wsX8_takesNumber) := goodIn_app (goodIn_of _ (by decide +kernel)) ggX8_takesMark_X8_takesNumber
set_option maxRecDepth 20000 in
theorem ggX8_takesMark_X8_takes : GoodIn wsX8_takesMark wsX8_takes := goodIn_r _ [26, 7, 9, 10, 11, 5, 12, 13, 8, 36, 37, 38, 39, 40, 41, 42, 43, 44, 45, 46, 47, 48, 49, 50] (by decide +kernel) (by decide +kernel)
set_option maxRecDepth 20000 in
theorem gX8_takesMark_X8_takes : GoodIn wsX8_takesMark (wsV RX8 109 RX8 yX8_takes wsX8_takes) := goodIn_app (goodIn_of _ (by decide +kernel)) ggX8_takesMark_X8_takes
set_option maxRecDepth 20000 in
theorem ggX8_takesMark_X8_takesDigit : GoodIn wsX8_takesMark wsX8_takesDigit := goodIn_r _ [30, 1, 7, 9, 10, 11, 5, 12, 13, 8, 20, 21, 22, 36, 37, 38, 39, 40, 41, 42, 43, 44, 45, 46, 47, 48, 49, 50] (by decide +kernel) (by decide +kernel)
set_option maxRecDepth 20000 in
theorem gX8_takesMark_X8_takesDigit : GoodIn wsX8_takesMark (wsV RX8 112 RX8 yX8_takesDigit wsX8_takesDigit) := goodIn_app (goodIn_of _ (by decide +kernel)) ggX8_takesMark_X8_takesDigit
set_option maxRecDepth 20000 in
theorem ggX8_takesMark_X8_addsMark : GoodIn wsX8_takesMark wsX8_addsMark := goodIn_r _ [34, 35, 36, 37, 38, 39, 40, 41, 42, 43, 44, 45, 46, 47, 48, 49, 50] (by decide +kernel) (by decide +kernel)
set_option maxRecDepth 20000 in
theorem gX8_takesMark_X8_addsMark : GoodIn wsX8_takesMark (wsV RX8 52 RX8 yX8_addsMark wsX8_addsMark) := goodIn_app (goodIn_of _ (by decide +kernel)) ggX8_takesMark_X8_addsMark
theorem dX8_takesMark_0 : decode cX8_takesMark 0 = .ok (.aload_n 0, 1) := by decide +kernel
theorem dX8_takesMark_1 : decode cX8_takesMark 1 = .ok (.bipush 60, 2) := by decide +kernel
theorem dX8_takesMark_3 : decode cX8_takesMark 3 = .ok (.invokevirtual 106, 3) := by decide +kernel
theorem dX8_takesMark_6 : decode cX8_takesMark 6 = .ok (.ifCond .ne 5, 3) := by decide +kernel
theorem dX8_takesMark_9 : decode cX8_takesMark 9 = .ok (.iconst 0, 1) := by decide +kernel
theorem dX8_takesMark_10 : decode cX8_takesMark 10 = .ok (.ireturn, 1) := by decide +kernel
theorem dX8_takesMark_11 : decode cX8_takesMark 11 = .ok (.aload_n 0, 1) := by decide +kernel
theorem dX8_takesMark_12 : decode cX8_takesMark 12 = .ok (.getfield 100, 3) := by decide +kernel
theorem dX8_takesMark_15 : decode cX8_takesMark 15 = .ok (.istore_n 1, 1) := by decide +kernel
theorem dX8_takesMark_16 : decode cX8_takesMark 16 = .ok (.aload_n 0, 1) := by decide +kernel
theorem dX8_takesMark_17 : decode cX8_takesMark 17 = .ok (.bipush 46, 2) := by decide +kernel
theorem dX8_takesMark_19 : decode cX8_takesMark 19 = .ok (.invokevirtual 109, 3) := by decide +kernel
theorem dX8_takesMark_22 : decode cX8_takesMark 22 = .ok (.ifCond .eq 13, 3) := by decide +kernel
theorem dX8_takesMark_25 : decode cX8_takesMark 25 = .ok (.aload_n 0, 1) := by decide +kernel
theorem dX8_takesMark_26 : decode cX8_takesMark 26 = .ok (.iconst 1, 1) := by decide +kernel
theorem dX8_takesMark_27 : decode cX8_takesMark 27 = .ok (.bipush 9, 2) := by decide +kernel
theorem dX8_takesMark_29 : decode cX8_takesMark 29 = .ok (.invokevirtual 112, 3) := by decide +kernel
theorem dX8_takesMark_32 : decode cX8_takesMark 32 = .ok (.ifCond .ne 5, 3) := by decide +kernel
theorem dX8_takesMark_35 : decode cX8_takesMark 35 = .ok (.iconst 0, 1) := by decide +kernel
theorem dX8_takesMark_36 : decode cX8_takesMark 36 = .ok (.ireturn, 1) := by decide +kernel
theorem dX8_takesMark_37 : decode cX8_takesMark 37 = .ok (.aload_n 0, 1) := by decide +kernel
theorem dX8_takesMark_38 : decode cX8_takesMark 38 = .ok (.getfield 100, 3) := by decide +kernel
theorem dX8_takesMark_41 : decode cX8_takesMark 41 = .ok (.istore_n 2, 1) := by decide +kernel
theorem dX8_takesMark_42 : decode cX8_takesMark 42 = .ok (.iconst 0, 1) := by decide +kernel
theorem dX8_takesMark_43 : decode cX8_takesMark 43 = .ok (.istore_n 3, 1) := by decide +kernel
theorem dX8_takesMark_44 : decode cX8_takesMark 44 = .ok (.aload_n 0, 1) := by decide +kernel
theorem dX8_takesMark_45 : decode cX8_takesMark 45 = .ok (.bipush 47, 2) := by decide +kernel
theorem dX8_takesMark_47 : decode cX8_takesMark 47 = .ok (.invokevirtual 109, 3) := by decide +kernel
theorem dX8_takesMark_50 : decode cX8_takesMark 50 = .ok (.ifCond .eq 19, 3) := by decide +kernel
theorem dX8_takesMark_53 : decode cX8_takesMark 53 = .ok (.aload_n 0, 1) := by decide +kernel
theorem dX8_takesMark_54 : decode cX8_takesMark 54 = .ok (.bipush 60, 2) := by decide +kernel
theorem dX8_takesMark_56 : decode cX8_takesMark 56 = .ok (.invokevirtual 106, 3) := by decide +kernel
theorem dX8_takesMark_59 : decode cX8_takesMark 59 = .ok (.ifCond .ne 5, 3) := by decide +kernel
theorem dX8_takesMark_62 : decode cX8_takesMark 62 = .ok (.iconst 0, 1) := by decide +kernel
theorem dX8_takesMark_63 : decode cX8_takesMark 63 = .ok (.ireturn, 1) := by decide +kernel
theorem dX8_takesMark_64 : decode cX8_takesMark 64 = .ok (.aload_n 0, 1) := by decide +kernel
theorem dX8_takesMark_65 : decode cX8_takesMark 65 = .ok (.getfield 100, 3) := by decide +kernel
theorem dX8_takesMark_68 : decode cX8_takesMark 68 = .ok (.istore_n 3, 1) := by decide +kernel
theorem dX8_takesMark_69 : decode cX8_takesMark 69 = .ok (.aload_n 0, 1) := by decide +kernel
theorem dX8_takesMark_70 : decode cX8_takesMark 70 = .ok (.sipush 630, 3) := by decide +kernel
theorem dX8_takesMark_73 : decode cX8_takesMark 73 = .ok (.iload_n 1, 1) := by decide +kernel
theorem dX8_takesMark_74 : decode cX8_takesMark 74 = .ok (.iload_n 2, 1) := by decide +kernel
theorem dX8_takesMark_75 : decode cX8_takesMark 75 = .ok (.iload_n 3, 1) := by decide +kernel
theorem dX8_takesMark_76 : decode cX8_takesMark 76 = .ok (.invokevirtual 52, 3) := by decide +kernel
theorem dX8_takesMark_79 : decode cX8_takesMark 79 = .ok (.iconst 1, 1) := by decide +kernel
theorem dX8_takesMark_80 : decode cX8_takesMark 80 = .ok (.ireturn, 1) := by decide +kernel
theorem dX8_kindOf_0 : decode cX8_kindOf 0 = .ok (.iload_n 0, 1) := by decide +kernel
theorem dX8_kindOf_1 : decode cX8_kindOf 1 = .ok (.bipush 112, 2) := by decide +kernel
theorem dX8_kindOf_3 : decode cX8_kindOf 3 = .ok (.if_icmp .ne 7, 3) := by decide +kernel
theorem dX8_kindOf_6 : decode cX8_kindOf 6 = .ok (.iconst 0, 1) := by decide +kernel
theorem dX8_kindOf_7 : decode cX8_kindOf 7 = .ok (.goto 44, 3) := by decide +kernel
theorem dX8_kindOf_10 : decode cX8_kindOf 10 = .ok (.iload_n 0, 1) := by decide +kernel
theorem dX8_kindOf_11 : decode cX8_kindOf 11 = .ok (.bipush 110, 2) := by decide +kernel
theorem dX8_kindOf_13 : decode cX8_kindOf 13 = .ok (.if_icmp .ne 7, 3) := by decide +kernel
theorem dX8_kindOf_16 : decode cX8_kindOf 16 = .ok (.iconst 1, 1) := by decide +kernel
theorem dX8_kindOf_17 : decode cX8_kindOf 17 = .ok (.goto 34, 3) := by decide +kernel
theorem dX8_kindOf_20 : decode cX8_kindOf 20 = .ok (.iload_n 0, 1) := by decide +kernel
theorem dX8_kindOf_21 : decode cX8_kindOf 21 = .ok (.bipush 115, 2) := by decide +kernel
theorem dX8_kindOf_23 : decode cX8_kindOf 23 = .ok (.if_icmp .ne 7, 3) := by decide +kernel
theorem dX8_kindOf_26 : decode cX8_kindOf 26 = .ok (.iconst 2, 1) := by decide +kernel
theorem dX8_kindOf_27 : decode cX8_kindOf 27 = .ok (.goto 24, 3) := by decide +kernel
theorem dX8_kindOf_30 : decode cX8_kindOf 30 = .ok (.iload_n 0, 1) := by decide +kernel
theorem dX8_kindOf_31 : decode cX8_kindOf 31 = .ok (.bipush 116, 2) := by decide +kernel
theorem dX8_kindOf_33 : decode cX8_kindOf 33 = .ok (.if_icmp .ne 7, 3) := by decide +kernel
theorem dX8_kindOf_36 : decode cX8_kindOf 36 = .ok (.iconst 3, 1) := by decide +kernel
theorem dX8_kindOf_37 : decode cX8_kindOf 37 = .ok (.goto 14, 3) := by decide +kernel
theorem dX8_kindOf_40 : decode cX8_kindOf 40 = .ok (.iload_n 0, 1) := by decide +kernel
theorem dX8_kindOf_41 : decode cX8_kindOf 41 = .ok (.bipush 97, 2) := by decide +kernel
theorem dX8_kindOf_43 : decode cX8_kindOf 43 = .ok (.if_icmp .ne 7, 3) := by decide +kernel
theorem dX8_kindOf_46 : decode cX8_kindOf 46 = .ok (.iconst 4, 1) := by decide +kernel
theorem dX8_kindOf_47 : decode cX8_kindOf 47 = .ok (.goto 4, 3) := by decide +kernel
theorem dX8_kindOf_50 : decode cX8_kindOf 50 = .ok (.iconst (-1), 1) := by decide +kernel
theorem dX8_kindOf_51 : decode cX8_kindOf 51 = .ok (.ireturn, 1) := by decide +kernel
set_option maxRecDepth 20000 in
theorem ggX8_takesMonk_X8_peek : GoodIn wsX8_takesMonk wsX8_peek := goodIn_r _ [8, 1, 9, 10, 39, 40, 41, 42, 43, 44, 45, 46, 47, 48, 49, 50, 51, 52, 53] (by decide +kernel) (by decide +kernel)
set_option maxRecDepth 20000 in
theorem gX8_takesMonk_X8_peek : GoodIn wsX8_takesMonk (wsV RX8 92 RX8 yX8_peek wsX8_peek) := goodIn_app (goodIn_of _ (by decide +kernel)) ggX8_takesMonk_X8_peek
set_option maxRecDepth 20000 in
theorem ggX8_takesMonk_X8_kindOf : GoodIn wsX8_takesMonk wsX8_kindOf := goodIn_r _ [13] (by decide +kernel) (by decide +kernel)
set_option maxRecDepth 20000 in
theorem gX8_takesMonk_X8_kindOf : GoodIn wsX8_takesMonk (va_wsS RX8 115 yX8_kindOf wsX8_kindOf) := goodIn_app (goodIn_of _ (by decide +kernel)) ggX8_takesMonk_X8_kindOf
set_option maxRecDepth 20000 in
theorem ggX8_takesMonk_X8_takesNumber : GoodIn wsX8_takesMonk wsX8_takesNumber := goodIn_r _ [17, 1, 2, 10, 4, 5, 6, 7, 8, 9, 18, 19, 20, 21, 22, 23, 24, 25, 26, 39, 40, 41, 42, 43, 44, 45, 46, 47, 48, 49, 50, 51, 52, 53] (by decide +kernel) (by decide +kernel)
set_option maxRecDepth 20000 in
theorem gX8_takesMonk_X8_takesNumber : GoodIn wsX8_takesMonk (wsV RX8 106 RX8 yX8_takesNumber wsX8_takesNumber) := goodIn_app (goodIn_of _ (by decide +kernel)) ggX8_takesMonk_X8_takesNumber
set_option maxRecDepth 20000 in
theorem ggX8_takesMonk_X8_takes : GoodIn wsX8_takesMonk wsX8_takes := goodIn_r _ [30, 1, 4, 5, 6, 7, 8, 9, 10, 39, 40, 41, 42, 43, 44, 45, 46, 47, 48, 49, 50, 51, 52, 53] (by decide +kernel) (by decide +kernel)
set_option maxRecDepth 20000 in
theorem gX8_takesMonk_X8_takes : GoodIn wsX8_takesMonk (wsV RX8 109 RX8 yX8_takes wsX8_takes) := goodIn_app (goodIn_of _ (by decide +kernel)) ggX8_takesMonk_X8_takes
set_option maxRecDepth 20000 in
theorem ggX8_takesMonk_X8_takesDigit : GoodIn wsX8_takesMonk wsX8_takesDigit := goodIn_r _ [34, 2, 1, 4, 5, 6, 7, 8, 9, 10, 24, 25, 26, 39, 40, 41, 42, 43, 44, 45, 46, 47, 48, 49, 50, 51, 52, 53] (by decide +kernel) (by decide +kernel)
set_option maxRecDepth 20000 in
theorem gX8_takesMonk_X8_takesDigit : GoodIn wsX8_takesMonk (wsV RX8 112 RX8 yX8_takesDigit wsX8_takesDigit) := goodIn_app (goodIn_of _ (by decide +kernel)) ggX8_takesMonk_X8_takesDigit
set_option maxRecDepth 20000 in
theorem ggX8_takesMonk_X8_addsMonk : GoodIn wsX8_takesMonk wsX8_addsMonk := goodIn_r _ [38, 3, 39, 40, 41, 42, 43, 44, 45, 46, 47, 48, 49, 50, 51, 52, 53] (by decide +kernel) (by decide +kernel)
set_option maxRecDepth 20000 in
theorem gX8_takesMonk_X8_addsMonk : GoodIn wsX8_takesMonk (wsV RX8 60 RX8 yX8_addsMonk wsX8_addsMonk) := goodIn_app (goodIn_of _ (by decide +kernel)) ggX8_takesMonk_X8_addsMonk
theorem dX8_takesMonk_0 : decode cX8_takesMonk 0 = .ok (.aload_n 0, 1) := by decide +kernel
theorem dX8_takesMonk_1 : decode cX8_takesMonk 1 = .ok (.invokevirtual 92, 3) := by decide +kernel
theorem dX8_takesMonk_4 : decode cX8_takesMonk 4 = .ok (.invokestatic 115, 3) := by decide +kernel
theorem dX8_takesMonk_7 : decode cX8_takesMonk 7 = .ok (.istore_n 1, 1) := by decide +kernel
theorem dX8_takesMonk_8 : decode cX8_takesMonk 8 = .ok (.iload_n 1, 1) := by decide +kernel
theorem dX8_takesMonk_9 : decode cX8_takesMonk 9 = .ok (.ifCond .ge 5, 3) := by decide +kernel
theorem dX8_takesMonk_12 : decode cX8_takesMonk 12 = .ok (.iconst 0, 1) := by decide +kernel
theorem dX8_takesMonk_13 : decode cX8_takesMonk 13 = .ok (.ireturn, 1) := by decide +kernel
theorem dX8_takesMonk_14 : decode cX8_takesMonk 14 = .ok (.aload_n 0, 1) := by decide +kernel
theorem dX8_takesMonk_15 : decode cX8_takesMonk 15 = .ok (.dup, 1) := by decide +kernel
theorem dX8_takesMonk_16 : decode cX8_takesMonk 16 = .ok (.getfield 89, 3) := by decide +kernel
theorem dX8_takesMonk_19 : decode cX8_takesMonk 19 = .ok (.iconst 1, 1) := by decide +kernel
theorem dX8_takesMonk_20 : decode cX8_takesMonk 20 = .ok (.iadd, 1) := by decide +kernel
theorem dX8_takesMonk_21 : decode cX8_takesMonk 21 = .ok (.putfield 89, 3) := by decide +kernel
theorem dX8_takesMonk_24 : decode cX8_takesMonk 24 = .ok (.aload_n 0, 1) := by decide +kernel
theorem dX8_takesMonk_25 : decode cX8_takesMonk 25 = .ok (.bipush 99, 2) := by decide +kernel
theorem dX8_takesMonk_27 : decode cX8_takesMonk 27 = .ok (.invokevirtual 106, 3) := by decide +kernel
theorem dX8_takesMonk_30 : decode cX8_takesMonk 30 = .ok (.ifCond .ne 5, 3) := by decide +kernel
theorem dX8_takesMonk_33 : decode cX8_takesMonk 33 = .ok (.iconst 0, 1) := by decide +kernel
theorem dX8_takesMonk_34 : decode cX8_takesMonk 34 = .ok (.ireturn, 1) := by decide +kernel
theorem dX8_takesMonk_35 : decode cX8_takesMonk 35 = .ok (.aload_n 0, 1) := by decide +kernel
theorem dX8_takesMonk_36 : decode cX8_takesMonk 36 = .ok (.getfield 100, 3) := by decide +kernel
theorem dX8_takesMonk_39 : decode cX8_takesMonk 39 = .ok (.istore_n 2, 1) := by decide +kernel
theorem dX8_takesMonk_40 : decode cX8_takesMonk 40 = .ok (.bipush (-4), 2) := by decide +kernel
theorem dX8_takesMonk_42 : decode cX8_takesMonk 42 = .ok (.istore_n 3, 1) := by decide +kernel
theorem dX8_takesMonk_43 : decode cX8_takesMonk 43 = .ok (.aload_n 0, 1) := by decide +kernel
theorem dX8_takesMonk_44 : decode cX8_takesMonk 44 = .ok (.bipush 62, 2) := by decide +kernel
theorem dX8_takesMonk_46 : decode cX8_takesMonk 46 = .ok (.invokevirtual 109, 3) := by decide +kernel
theorem dX8_takesMonk_49 : decode cX8_takesMonk 49 = .ok (.ifCond .eq 28, 3) := by decide +kernel
theorem dX8_takesMonk_52 : decode cX8_takesMonk 52 = .ok (.aload_n 0, 1) := by decide +kernel
theorem dX8_takesMonk_53 : decode cX8_takesMonk 53 = .ok (.iconst 0, 1) := by decide +kernel
theorem dX8_takesMonk_54 : decode cX8_takesMonk 54 = .ok (.aload_n 0, 1) := by decide +kernel
theorem dX8_takesMonk_55 : decode cX8_takesMonk 55 = .ok (.getfield 7, 3) := by decide +kernel
theorem dX8_takesMonk_58 : decode cX8_takesMonk 58 = .ok (.sipush 630, 3) := by decide +kernel
theorem dX8_takesMonk_61 : decode cX8_takesMonk 61 = .ok (.iaload, 1) := by decide +kernel
theorem dX8_takesMonk_62 : decode cX8_takesMonk 62 = .ok (.iconst 1, 1) := by decide +kernel
theorem dX8_takesMonk_63 : decode cX8_takesMonk 63 = .ok (.isub, 1) := by decide +kernel
theorem dX8_takesMonk_64 : decode cX8_takesMonk 64 = .ok (.invokevirtual 112, 3) := by decide +kernel
theorem dX8_takesMonk_67 : decode cX8_takesMonk 67 = .ok (.ifCond .ne 5, 3) := by decide +kernel
theorem dX8_takesMonk_70 : decode cX8_takesMonk 70 = .ok (.iconst 0, 1) := by decide +kernel
theorem dX8_takesMonk_71 : decode cX8_takesMonk 71 = .ok (.ireturn, 1) := by decide +kernel
theorem dX8_takesMonk_72 : decode cX8_takesMonk 72 = .ok (.aload_n 0, 1) := by decide +kernel
theorem dX8_takesMonk_73 : decode cX8_takesMonk 73 = .ok (.getfield 100, 3) := by decide +kernel
theorem dX8_takesMonk_76 : decode cX8_takesMonk 76 = .ok (.istore_n 3, 1) := by decide +kernel
theorem dX8_takesMonk_77 : decode cX8_takesMonk 77 = .ok (.aload_n 0, 1) := by decide +kernel
theorem dX8_takesMonk_78 : decode cX8_takesMonk 78 = .ok (.sipush 630, 3) := by decide +kernel
theorem dX8_takesMonk_81 : decode cX8_takesMonk 81 = .ok (.iload_n 1, 1) := by decide +kernel
theorem dX8_takesMonk_82 : decode cX8_takesMonk 82 = .ok (.iload_n 2, 1) := by decide +kernel
theorem dX8_takesMonk_83 : decode cX8_takesMonk 83 = .ok (.iload_n 3, 1) := by decide +kernel
theorem dX8_takesMonk_84 : decode cX8_takesMonk 84 = .ok (.invokevirtual 60, 3) := by decide +kernel
theorem dX8_takesMonk_87 : decode cX8_takesMonk 87 = .ok (.iconst 1, 1) := by decide +kernel
theorem dX8_takesMonk_88 : decode cX8_takesMonk 88 = .ok (.ireturn, 1) := by decide +kernel
set_option maxRecDepth 20000 in
theorem ggX8_takesRock_X8_takesMark : GoodIn wsX8_takesRock wsX8_takesMark := goodIn_r _ [6, 7, 8, 9, 10, 5, 11, 12, 13, 14, 15, 16, 17, 18, 19, 20, 21, 22, 23, 24, 25, 26, 27, 28, 29, 30, 31, 32, 33, 34, 35, 36, 37, 38, 39, 1, 51, 52, 53, 54, 55, 56, 57, 58, 59, 60, 61, 62, 63, 64, 65] (by decide +kernel) (by decide +kernel)
set_option maxRecDepth 20000 in
theorem gX8_takesRock_X8_takesMark : GoodIn wsX8_takesRock (wsV RX8 118 RX8 yX8_takesMark wsX8_takesMark) := goodIn_app (goodIn_of _ (by decide +kernel)) ggX8_takesRock_X8_takesMark
set_option maxRecDepth 20000 in
theorem ggX8_takesRock_X8_takes : GoodIn wsX8_takesRock wsX8_takes := goodIn_r _ [31, 12, 14, 15, 16, 5, 17, 18, 13, 51, 52, 53, 54, 55, 56, 57, 58, 59, 60, 61, 62, 63, 64, 65] (by decide +kernel) (by decide +kernel)
set_option maxRecDepth 20000 in
theorem gX8_takesRock_X8_takes : GoodIn wsX8_takesRock (wsV RX8 109 RX8 yX8_takes wsX8_takes) := goodIn_app (goodIn_of _ (by decide +kernel)) ggX8_takesRock_X8_takes
set_option maxRecDepth 20000 in
theorem ggX8_takesRock_X8_takesMonk : GoodIn wsX8_takesRock wsX8_takesMonk := goodIn_r _ [43, 12, 7, 1, 14, 15, 16, 5, 17, 18, 13, 44, 45, 46, 8, 9, 10, 11, 19, 20, 21, 22, 23, 24, 25, 26, 27, 28, 29, 30, 31, 32, 33, 34, 35, 47, 48, 49, 50, 51, 52, 53, 54, 55, 56, 57, 58, 59, 60, 61, 62, 63, 64, 65] (by decide +kernel) (by decide +kernel)
set_option maxRecDepth 20000 in
theorem gX8_takesRock_X8_takesMonk : GoodIn wsX8_takesRock (wsV RX8 122 RX8 yX8_takesMonk wsX8_takesMonk) := goodIn_app (goodIn_of _ (by decide +kernel)) ggX8_takesRock_X8_takesMonk
set_option maxRecDepth 20000 in
theorem ggX8_takesRock_X8_peek : GoodIn wsX8_takesRock wsX8_peek := goodIn_r _ [17, 12, 18, 13, 51, 52, 53, 54, 55, 56, 57, 58, 59, 60, 61, 62, 63, 64, 65] (by decide +kernel) (by decide +kernel)
set_option maxRecDepth 20000 in
theorem gX8_takesRock_X8_peek : GoodIn wsX8_takesRock (wsV RX8 92 RX8 yX8_peek wsX8_peek) := goodIn_app (goodIn_of _ (by decide +kernel)) ggX8_takesRock_X8_peek
theorem dX8_takesRock_0 : decode cX8_takesRock 0 = .ok (.aload_n 0, 1) := by decide +kernel
theorem dX8_takesRock_1 : decode cX8_takesRock 1 = .ok (.invokevirtual 118, 3) := by decide +kernel
theorem dX8_takesRock_4 : decode cX8_takesRock 4 = .ok (.ifCond .ne 5, 3) := by decide +kernel
theorem dX8_takesRock_7 : decode cX8_takesRock 7 = .ok (.iconst 0, 1) := by decide +kernel
theorem dX8_takesRock_8 : decode cX8_takesRock 8 = .ok (.ireturn, 1) := by decide +kernel
theorem dX8_takesRock_9 : decode cX8_takesRock 9 = .ok (.aload_n 0, 1) := by decide +kernel
theorem dX8_takesRock_10 : decode cX8_takesRock 10 = .ok (.getfield 7, 3) := by decide +kernel
theorem dX8_takesRock_13 : decode cX8_takesRock 13 = .ok (.sipush 630, 3) := by decide +kernel
theorem dX8_takesRock_16 : decode cX8_takesRock 16 = .ok (.iaload, 1) := by decide +kernel
theorem dX8_takesRock_17 : decode cX8_takesRock 17 = .ok (.bipush 6, 2) := by decide +kernel
theorem dX8_takesRock_19 : decode cX8_takesRock 19 = .ok (.if_icmp .ge 12, 3) := by decide +kernel
theorem dX8_takesRock_22 : decode cX8_takesRock 22 = .ok (.aload_n 0, 1) := by decide +kernel
theorem dX8_takesRock_23 : decode cX8_takesRock 23 = .ok (.bipush 44, 2) := by decide +kernel
theorem dX8_takesRock_25 : decode cX8_takesRock 25 = .ok (.invokevirtual 109, 3) := by decide +kernel
theorem dX8_takesRock_28 : decode cX8_takesRock 28 = .ok (.ifCond .ne (-28), 3) := by decide +kernel
theorem dX8_takesRock_31 : decode cX8_takesRock 31 = .ok (.aload_n 0, 1) := by decide +kernel
theorem dX8_takesRock_32 : decode cX8_takesRock 32 = .ok (.bipush 59, 2) := by decide +kernel
theorem dX8_takesRock_34 : decode cX8_takesRock 34 = .ok (.invokevirtual 109, 3) := by decide +kernel
theorem dX8_takesRock_37 : decode cX8_takesRock 37 = .ok (.ifCond .eq 33, 3) := by decide +kernel
theorem dX8_takesRock_40 : decode cX8_takesRock 40 = .ok (.aload_n 0, 1) := by decide +kernel
theorem dX8_takesRock_41 : decode cX8_takesRock 41 = .ok (.invokevirtual 122, 3) := by decide +kernel
theorem dX8_takesRock_44 : decode cX8_takesRock 44 = .ok (.ifCond .ne 5, 3) := by decide +kernel
theorem dX8_takesRock_47 : decode cX8_takesRock 47 = .ok (.iconst 0, 1) := by decide +kernel
theorem dX8_takesRock_48 : decode cX8_takesRock 48 = .ok (.ireturn, 1) := by decide +kernel
theorem dX8_takesRock_49 : decode cX8_takesRock 49 = .ok (.aload_n 0, 1) := by decide +kernel
theorem dX8_takesRock_50 : decode cX8_takesRock 50 = .ok (.getfield 7, 3) := by decide +kernel
theorem dX8_takesRock_53 : decode cX8_takesRock 53 = .ok (.sipush 631, 3) := by decide +kernel
theorem dX8_takesRock_56 : decode cX8_takesRock 56 = .ok (.iaload, 1) := by decide +kernel
theorem dX8_takesRock_57 : decode cX8_takesRock 57 = .ok (.iconst 5, 1) := by decide +kernel
theorem dX8_takesRock_58 : decode cX8_takesRock 58 = .ok (.if_icmp .ge 12, 3) := by decide +kernel
theorem dX8_takesRock_61 : decode cX8_takesRock 61 = .ok (.aload_n 0, 1) := by decide +kernel
theorem dX8_takesRock_62 : decode cX8_takesRock 62 = .ok (.bipush 44, 2) := by decide +kernel
theorem dX8_takesRock_64 : decode cX8_takesRock 64 = .ok (.invokevirtual 109, 3) := by decide +kernel
theorem dX8_takesRock_67 : decode cX8_takesRock 67 = .ok (.ifCond .ne (-27), 3) := by decide +kernel
theorem dX8_takesRock_70 : decode cX8_takesRock 70 = .ok (.aload_n 0, 1) := by decide +kernel
theorem dX8_takesRock_71 : decode cX8_takesRock 71 = .ok (.invokevirtual 92, 3) := by decide +kernel
theorem dX8_takesRock_74 : decode cX8_takesRock 74 = .ok (.ifCond .ne 7, 3) := by decide +kernel
theorem dX8_takesRock_77 : decode cX8_takesRock 77 = .ok (.iconst 1, 1) := by decide +kernel
theorem dX8_takesRock_78 : decode cX8_takesRock 78 = .ok (.goto 4, 3) := by decide +kernel
theorem dX8_takesRock_81 : decode cX8_takesRock 81 = .ok (.iconst 0, 1) := by decide +kernel
theorem dX8_takesRock_82 : decode cX8_takesRock 82 = .ok (.ireturn, 1) := by decide +kernel
set_option maxRecDepth 20000 in
theorem ggX8_rock_X8_takesRock : GoodIn wsX8_rock wsX8_takesRock := goodIn_r _ [8, 1, 9, 10, 11, 7, 12, 13, 14, 15, 16, 17, 2, 18, 19, 20, 21, 22, 3, 23, 24, 25, 26, 27, 28, 29, 30, 31, 32, 33, 34, 35, 36, 37, 38, 39, 40, 41, 42, 43, 44, 45, 46, 47, 48, 49, 50, 51, 52, 53, 54, 59, 60, 61, 62, 63, 64, 65, 66, 67, 68, 69, 70, 71, 72, 73] (by decide +kernel) (by decide +kernel)
set_option maxRecDepth 20000 in
theorem gX8_rock_X8_takesRock : GoodIn wsX8_rock (wsV RX8 125 RX8 yX8_takesRock wsX8_takesRock) := goodIn_app (goodIn_of _ (by decide +kernel)) ggX8_rock_X8_takesRock
set_option maxRecDepth 20000 in
theorem ggX8_rock_X8_peek : GoodIn wsX8_rock wsX8_peek := goodIn_r _ [22, 2, 3, 18, 59, 60, 61, 62, 63, 64, 65, 66, 67, 68, 69, 70, 71, 72, 73] (by decide +kernel) (by decide +kernel)
set_option maxRecDepth 20000 in
theorem gX8_rock_X8_peek : GoodIn wsX8_rock (wsV RX8 92 RX8 yX8_peek wsX8_peek) := goodIn_app (goodIn_of _ (by decide +kernel)) ggX8_rock_X8_peek
set_option maxRecDepth 20000 in
theorem ggX8_rock_X8_bring : GoodIn wsX8_rock wsX8_bring := goodIn_r _ [58, 1, 59, 60, 61, 62, 63, 64, 65, 66, 67, 68, 69, 70, 71, 72, 73] (by decide +kernel) (by decide +kernel)
set_option maxRecDepth 20000 in
theorem gX8_rock_X8_bring : GoodIn wsX8_rock (wsV RX8 128 RX8 yX8_bring wsX8_bring) := goodIn_app (goodIn_of _ (by decide +kernel)) ggX8_rock_X8_bring
theorem dX8_rock_0 : decode cX8_rock 0 = .ok (.iconst 0, 1) := by decide +kernel
theorem dX8_rock_1 : decode cX8_rock 1 = .ok (.istore_n 1, 1) := by decide +kernel
theorem dX8_rock_2 : decode cX8_rock 2 = .ok (.iload_n 1, 1) := by decide +kernel
theorem dX8_rock_3 : decode cX8_rock 3 = .ok (.bipush 44, 2) := by decide +kernel
theorem dX8_rock_5 : decode cX8_rock 5 = .ok (.if_icmp .ge 20, 3) := by decide +kernel
theorem dX8_rock_8 : decode cX8_rock 8 = .ok (.aload_n 0, 1) := by decide +kernel
theorem dX8_rock_9 : decode cX8_rock 9 = .ok (.getfield 7, 3) := by decide +kernel
theorem dX8_rock_12 : decode cX8_rock 12 = .ok (.sipush 630, 3) := by decide +kernel
theorem dX8_rock_15 : decode cX8_rock 15 = .ok (.iload_n 1, 1) := by decide +kernel
theorem dX8_rock_16 : decode cX8_rock 16 = .ok (.iadd, 1) := by decide +kernel
theorem dX8_rock_17 : decode cX8_rock 17 = .ok (.iconst 0, 1) := by decide +kernel
theorem dX8_rock_18 : decode cX8_rock 18 = .ok (.iastore, 1) := by decide +kernel
theorem dX8_rock_19 : decode cX8_rock 19 = .ok (.iinc 1 1, 3) := by decide +kernel
theorem dX8_rock_22 : decode cX8_rock 22 = .ok (.goto (-20), 3) := by decide +kernel
theorem dX8_rock_25 : decode cX8_rock 25 = .ok (.aload_n 0, 1) := by decide +kernel
theorem dX8_rock_26 : decode cX8_rock 26 = .ok (.getfield 7, 3) := by decide +kernel
theorem dX8_rock_29 : decode cX8_rock 29 = .ok (.sipush 633, 3) := by decide +kernel
theorem dX8_rock_32 : decode cX8_rock 32 = .ok (.aload_n 0, 1) := by decide +kernel
theorem dX8_rock_33 : decode cX8_rock 33 = .ok (.getfield 7, 3) := by decide +kernel
theorem dX8_rock_36 : decode cX8_rock 36 = .ok (.iconst 3, 1) := by decide +kernel
theorem dX8_rock_37 : decode cX8_rock 37 = .ok (.iaload, 1) := by decide +kernel
theorem dX8_rock_38 : decode cX8_rock 38 = .ok (.iastore, 1) := by decide +kernel
theorem dX8_rock_39 : decode cX8_rock 39 = .ok (.aload_n 0, 1) := by decide +kernel
theorem dX8_rock_40 : decode cX8_rock 40 = .ok (.iconst 0, 1) := by decide +kernel
theorem dX8_rock_41 : decode cX8_rock 41 = .ok (.putfield 89, 3) := by decide +kernel
theorem dX8_rock_44 : decode cX8_rock 44 = .ok (.aload_n 0, 1) := by decide +kernel
theorem dX8_rock_45 : decode cX8_rock 45 = .ok (.invokevirtual 125, 3) := by decide +kernel
theorem dX8_rock_48 : decode cX8_rock 48 = .ok (.istore_n 1, 1) := by decide +kernel
theorem dX8_rock_49 : decode cX8_rock 49 = .ok (.iload_n 1, 1) := by decide +kernel
theorem dX8_rock_50 : decode cX8_rock 50 = .ok (.ifCond .ne 8, 3) := by decide +kernel
theorem dX8_rock_53 : decode cX8_rock 53 = .ok (.aload_n 0, 1) := by decide +kernel
theorem dX8_rock_54 : decode cX8_rock 54 = .ok (.invokevirtual 92, 3) := by decide +kernel
theorem dX8_rock_57 : decode cX8_rock 57 = .ok (.pop, 1) := by decide +kernel
theorem dX8_rock_58 : decode cX8_rock 58 = .ok (.aload_n 0, 1) := by decide +kernel
theorem dX8_rock_59 : decode cX8_rock 59 = .ok (.iconst 0, 1) := by decide +kernel
theorem dX8_rock_60 : decode cX8_rock 60 = .ok (.putfield 85, 3) := by decide +kernel
theorem dX8_rock_63 : decode cX8_rock 63 = .ok (.iload_n 1, 1) := by decide +kernel
theorem dX8_rock_64 : decode cX8_rock 64 = .ok (.ifCond .ne 11, 3) := by decide +kernel
theorem dX8_rock_67 : decode cX8_rock 67 = .ok (.bipush (-20), 2) := by decide +kernel
theorem dX8_rock_69 : decode cX8_rock 69 = .ok (.aload_n 0, 1) := by decide +kernel
theorem dX8_rock_70 : decode cX8_rock 70 = .ok (.getfield 89, 3) := by decide +kernel
theorem dX8_rock_73 : decode cX8_rock 73 = .ok (.isub, 1) := by decide +kernel
theorem dX8_rock_74 : decode cX8_rock 74 = .ok (.ireturn, 1) := by decide +kernel
theorem dX8_rock_75 : decode cX8_rock 75 = .ok (.aload_n 0, 1) := by decide +kernel
theorem dX8_rock_76 : decode cX8_rock 76 = .ok (.sipush 630, 3) := by decide +kernel
theorem dX8_rock_79 : decode cX8_rock 79 = .ok (.iconst 0, 1) := by decide +kernel
theorem dX8_rock_80 : decode cX8_rock 80 = .ok (.bipush 44, 2) := by decide +kernel
theorem dX8_rock_82 : decode cX8_rock 82 = .ok (.invokevirtual 128, 3) := by decide +kernel
theorem dX8_rock_85 : decode cX8_rock 85 = .ok (.aload_n 0, 1) := by decide +kernel
theorem dX8_rock_86 : decode cX8_rock 86 = .ok (.getfield 7, 3) := by decide +kernel
theorem dX8_rock_89 : decode cX8_rock 89 = .ok (.bipush 44, 2) := by decide +kernel
theorem dX8_rock_91 : decode cX8_rock 91 = .ok (.iconst 0, 1) := by decide +kernel
theorem dX8_rock_92 : decode cX8_rock 92 = .ok (.iastore, 1) := by decide +kernel
theorem dX8_rock_93 : decode cX8_rock 93 = .ok (.aload_n 0, 1) := by decide +kernel
theorem dX8_rock_94 : decode cX8_rock 94 = .ok (.getfield 7, 3) := by decide +kernel
theorem dX8_rock_97 : decode cX8_rock 97 = .ok (.iconst 0, 1) := by decide +kernel
theorem dX8_rock_98 : decode cX8_rock 98 = .ok (.iaload, 1) := by decide +kernel
theorem dX8_rock_99 : decode cX8_rock 99 = .ok (.ireturn, 1) := by decide +kernel
set_option maxRecDepth 20000 in
theorem ggX8_goneOnes_X8_isGone : GoodIn wsX8_goneOnes wsX8_isGone := goodIn_r _ [6, 1, 7, 8, 9, 10, 11, 12, 13, 14, 15, 16, 17, 18, 19, 20, 21] (by decide +kernel) (by decide +kernel)
set_option maxRecDepth 20000 in
theorem gX8_goneOnes_X8_isGone : GoodIn wsX8_goneOnes (wsV RX8 67 RX8 yX8_isGone wsX8_isGone) := goodIn_app (goodIn_of _ (by decide +kernel)) ggX8_goneOnes_X8_isGone
theorem dX8_goneOnes_0 : decode cX8_goneOnes 0 = .ok (.iconst 0, 1) := by decide +kernel
theorem dX8_goneOnes_1 : decode cX8_goneOnes 1 = .ok (.istore_n 2, 1) := by decide +kernel
theorem dX8_goneOnes_2 : decode cX8_goneOnes 2 = .ok (.iconst 0, 1) := by decide +kernel
theorem dX8_goneOnes_3 : decode cX8_goneOnes 3 = .ok (.istore_n 3, 1) := by decide +kernel
theorem dX8_goneOnes_4 : decode cX8_goneOnes 4 = .ok (.iload_n 3, 1) := by decide +kernel
theorem dX8_goneOnes_5 : decode cX8_goneOnes 5 = .ok (.aload_n 0, 1) := by decide +kernel
theorem dX8_goneOnes_6 : decode cX8_goneOnes 6 = .ok (.getfield 7, 3) := by decide +kernel
theorem dX8_goneOnes_9 : decode cX8_goneOnes 9 = .ok (.iload_n 1, 1) := by decide +kernel
theorem dX8_goneOnes_10 : decode cX8_goneOnes 10 = .ok (.iconst 0, 1) := by decide +kernel
theorem dX8_goneOnes_11 : decode cX8_goneOnes 11 = .ok (.iadd, 1) := by decide +kernel
theorem dX8_goneOnes_12 : decode cX8_goneOnes 12 = .ok (.iaload, 1) := by decide +kernel
theorem dX8_goneOnes_13 : decode cX8_goneOnes 13 = .ok (.if_icmp .ge 28, 3) := by decide +kernel
theorem dX8_goneOnes_16 : decode cX8_goneOnes 16 = .ok (.iload_n 2, 1) := by decide +kernel
theorem dX8_goneOnes_17 : decode cX8_goneOnes 17 = .ok (.aload_n 0, 1) := by decide +kernel
theorem dX8_goneOnes_18 : decode cX8_goneOnes 18 = .ok (.iload_n 1, 1) := by decide +kernel
theorem dX8_goneOnes_19 : decode cX8_goneOnes 19 = .ok (.iload_n 3, 1) := by decide +kernel
theorem dX8_goneOnes_20 : decode cX8_goneOnes 20 = .ok (.invokevirtual 67, 3) := by decide +kernel
theorem dX8_goneOnes_23 : decode cX8_goneOnes 23 = .ok (.ifCond .eq 9, 3) := by decide +kernel
theorem dX8_goneOnes_26 : decode cX8_goneOnes 26 = .ok (.iconst 1, 1) := by decide +kernel
theorem dX8_goneOnes_27 : decode cX8_goneOnes 27 = .ok (.iload_n 3, 1) := by decide +kernel
theorem dX8_goneOnes_28 : decode cX8_goneOnes 28 = .ok (.ishl, 1) := by decide +kernel
theorem dX8_goneOnes_29 : decode cX8_goneOnes 29 = .ok (.goto 4, 3) := by decide +kernel
theorem dX8_goneOnes_32 : decode cX8_goneOnes 32 = .ok (.iconst 0, 1) := by decide +kernel
theorem dX8_goneOnes_33 : decode cX8_goneOnes 33 = .ok (.ior, 1) := by decide +kernel
theorem dX8_goneOnes_34 : decode cX8_goneOnes 34 = .ok (.istore_n 2, 1) := by decide +kernel
theorem dX8_goneOnes_35 : decode cX8_goneOnes 35 = .ok (.iinc 3 1, 3) := by decide +kernel
theorem dX8_goneOnes_38 : decode cX8_goneOnes 38 = .ok (.goto (-34), 3) := by decide +kernel
theorem dX8_goneOnes_41 : decode cX8_goneOnes 41 = .ok (.iload_n 2, 1) := by decide +kernel
theorem dX8_goneOnes_42 : decode cX8_goneOnes 42 = .ok (.ireturn, 1) := by decide +kernel
set_option maxRecDepth 20000 in
theorem ggX8_tornOnes_X8_isTorn : GoodIn wsX8_tornOnes wsX8_isTorn := goodIn_r _ [6, 1, 7, 8, 9, 10, 11, 12, 13, 14, 15, 16, 17, 18, 19, 20, 21] (by decide +kernel) (by decide +kernel)
set_option maxRecDepth 20000 in
theorem gX8_tornOnes_X8_isTorn : GoodIn wsX8_tornOnes (wsV RX8 71 RX8 yX8_isTorn wsX8_isTorn) := goodIn_app (goodIn_of _ (by decide +kernel)) ggX8_tornOnes_X8_isTorn
theorem dX8_tornOnes_0 : decode cX8_tornOnes 0 = .ok (.iconst 0, 1) := by decide +kernel
theorem dX8_tornOnes_1 : decode cX8_tornOnes 1 = .ok (.istore_n 2, 1) := by decide +kernel
theorem dX8_tornOnes_2 : decode cX8_tornOnes 2 = .ok (.iconst 0, 1) := by decide +kernel
theorem dX8_tornOnes_3 : decode cX8_tornOnes 3 = .ok (.istore_n 3, 1) := by decide +kernel
theorem dX8_tornOnes_4 : decode cX8_tornOnes 4 = .ok (.iload_n 3, 1) := by decide +kernel
theorem dX8_tornOnes_5 : decode cX8_tornOnes 5 = .ok (.aload_n 0, 1) := by decide +kernel
theorem dX8_tornOnes_6 : decode cX8_tornOnes 6 = .ok (.getfield 7, 3) := by decide +kernel
theorem dX8_tornOnes_9 : decode cX8_tornOnes 9 = .ok (.iload_n 1, 1) := by decide +kernel
theorem dX8_tornOnes_10 : decode cX8_tornOnes 10 = .ok (.iconst 0, 1) := by decide +kernel
theorem dX8_tornOnes_11 : decode cX8_tornOnes 11 = .ok (.iadd, 1) := by decide +kernel
theorem dX8_tornOnes_12 : decode cX8_tornOnes 12 = .ok (.iaload, 1) := by decide +kernel
theorem dX8_tornOnes_13 : decode cX8_tornOnes 13 = .ok (.if_icmp .ge 28, 3) := by decide +kernel
theorem dX8_tornOnes_16 : decode cX8_tornOnes 16 = .ok (.iload_n 2, 1) := by decide +kernel
theorem dX8_tornOnes_17 : decode cX8_tornOnes 17 = .ok (.aload_n 0, 1) := by decide +kernel
theorem dX8_tornOnes_18 : decode cX8_tornOnes 18 = .ok (.iload_n 1, 1) := by decide +kernel
theorem dX8_tornOnes_19 : decode cX8_tornOnes 19 = .ok (.iload_n 3, 1) := by decide +kernel
theorem dX8_tornOnes_20 : decode cX8_tornOnes 20 = .ok (.invokevirtual 71, 3) := by decide +kernel
theorem dX8_tornOnes_23 : decode cX8_tornOnes 23 = .ok (.ifCond .eq 9, 3) := by decide +kernel
theorem dX8_tornOnes_26 : decode cX8_tornOnes 26 = .ok (.iconst 1, 1) := by decide +kernel
theorem dX8_tornOnes_27 : decode cX8_tornOnes 27 = .ok (.iload_n 3, 1) := by decide +kernel
theorem dX8_tornOnes_28 : decode cX8_tornOnes 28 = .ok (.ishl, 1) := by decide +kernel
theorem dX8_tornOnes_29 : decode cX8_tornOnes 29 = .ok (.goto 4, 3) := by decide +kernel
theorem dX8_tornOnes_32 : decode cX8_tornOnes 32 = .ok (.iconst 0, 1) := by decide +kernel
theorem dX8_tornOnes_33 : decode cX8_tornOnes 33 = .ok (.ior, 1) := by decide +kernel
theorem dX8_tornOnes_34 : decode cX8_tornOnes 34 = .ok (.istore_n 2, 1) := by decide +kernel
theorem dX8_tornOnes_35 : decode cX8_tornOnes 35 = .ok (.iinc 3 1, 3) := by decide +kernel
theorem dX8_tornOnes_38 : decode cX8_tornOnes 38 = .ok (.goto (-34), 3) := by decide +kernel
theorem dX8_tornOnes_41 : decode cX8_tornOnes 41 = .ok (.iload_n 2, 1) := by decide +kernel
theorem dX8_tornOnes_42 : decode cX8_tornOnes 42 = .ok (.ireturn, 1) := by decide +kernel
theorem dX8_sumOf_0 : decode cX8_sumOf 0 = .ok (.iconst 0, 1) := by decide +kernel
theorem dX8_sumOf_1 : decode cX8_sumOf 1 = .ok (.istore_n 3, 1) := by decide +kernel
theorem dX8_sumOf_2 : decode cX8_sumOf 2 = .ok (.iconst 0, 1) := by decide +kernel
theorem dX8_sumOf_3 : decode cX8_sumOf 3 = .ok (.istore 4, 2) := by decide +kernel
theorem dX8_sumOf_5 : decode cX8_sumOf 5 = .ok (.iload 4, 2) := by decide +kernel
theorem dX8_sumOf_7 : decode cX8_sumOf 7 = .ok (.iload_n 2, 1) := by decide +kernel
theorem dX8_sumOf_8 : decode cX8_sumOf 8 = .ok (.if_icmp .ge 21, 3) := by decide +kernel
theorem dX8_sumOf_11 : decode cX8_sumOf 11 = .ok (.iload_n 3, 1) := by decide +kernel
theorem dX8_sumOf_12 : decode cX8_sumOf 12 = .ok (.aload_n 0, 1) := by decide +kernel
theorem dX8_sumOf_13 : decode cX8_sumOf 13 = .ok (.getfield 7, 3) := by decide +kernel
theorem dX8_sumOf_16 : decode cX8_sumOf 16 = .ok (.iload_n 1, 1) := by decide +kernel
theorem dX8_sumOf_17 : decode cX8_sumOf 17 = .ok (.iload 4, 2) := by decide +kernel
theorem dX8_sumOf_19 : decode cX8_sumOf 19 = .ok (.iadd, 1) := by decide +kernel
theorem dX8_sumOf_20 : decode cX8_sumOf 20 = .ok (.iaload, 1) := by decide +kernel
theorem dX8_sumOf_21 : decode cX8_sumOf 21 = .ok (.iadd, 1) := by decide +kernel
theorem dX8_sumOf_22 : decode cX8_sumOf 22 = .ok (.istore_n 3, 1) := by decide +kernel
theorem dX8_sumOf_23 : decode cX8_sumOf 23 = .ok (.iinc 4 1, 3) := by decide +kernel
theorem dX8_sumOf_26 : decode cX8_sumOf 26 = .ok (.goto (-21), 3) := by decide +kernel
theorem dX8_sumOf_29 : decode cX8_sumOf 29 = .ok (.iload_n 3, 1) := by decide +kernel
theorem dX8_sumOf_30 : decode cX8_sumOf 30 = .ok (.ireturn, 1) := by decide +kernel
set_option maxRecDepth 20000 in
theorem ggX8_count_X8_goneOnes : GoodIn wsX8_count wsX8_goneOnes := goodIn_r _ [6, 1, 7, 8, 9, 5, 10, 23, 24, 25, 26, 27, 28, 29, 30, 31, 32, 33, 34, 35, 36, 37] (by decide +kernel) (by decide +kernel)
set_option maxRecDepth 20000 in
theorem gX8_count_X8_goneOnes : GoodIn wsX8_count (wsV RX8 132 RX8 yX8_goneOnes wsX8_goneOnes) := goodIn_app (goodIn_of _ (by decide +kernel)) ggX8_count_X8_goneOnes
set_option maxRecDepth 20000 in
theorem ggX8_count_X8_tornOnes : GoodIn wsX8_count wsX8_tornOnes := goodIn_r _ [14, 1, 15, 16, 17, 5, 18, 23, 24, 25, 26, 27, 28, 29, 30, 31, 32, 33, 34, 35, 36, 37] (by decide +kernel) (by decide +kernel)
set_option maxRecDepth 20000 in
theorem gX8_count_X8_tornOnes : GoodIn wsX8_count (wsV RX8 135 RX8 yX8_tornOnes wsX8_tornOnes) := goodIn_app (goodIn_of _ (by decide +kernel)) ggX8_count_X8_tornOnes
set_option maxRecDepth 20000 in
theorem ggX8_count_X8_sumOf : GoodIn wsX8_count wsX8_sumOf := goodIn_r _ [22, 1, 23, 24, 25, 26, 27, 28, 29, 30, 31, 32, 33, 34, 35, 36, 37] (by decide +kernel) (by decide +kernel)
set_option maxRecDepth 20000 in
theorem gX8_count_X8_sumOf : GoodIn wsX8_count (wsV RX8 138 RX8 yX8_sumOf wsX8_sumOf) := goodIn_app (goodIn_of _ (by decide +kernel)) ggX8_count_X8_sumOf
theorem dX8_count_0 : decode cX8_count 0 = .ok (.iload_n 1, 1) := by decide +kernel
theorem dX8_count_1 : decode cX8_count 1 = .ok (.tableswitch 124 0 8 #[51, 58, 65, 72, 79, 85, 91, 103, 116], 51) := by decide +kernel
theorem dX8_count_52 : decode cX8_count 52 = .ok (.aload_n 0, 1) := by decide +kernel
theorem dX8_count_53 : decode cX8_count 53 = .ok (.getfield 7, 3) := by decide +kernel
theorem dX8_count_56 : decode cX8_count 56 = .ok (.iconst 0, 1) := by decide +kernel
theorem dX8_count_57 : decode cX8_count 57 = .ok (.iaload, 1) := by decide +kernel
theorem dX8_count_58 : decode cX8_count 58 = .ok (.ireturn, 1) := by decide +kernel
theorem dX8_count_59 : decode cX8_count 59 = .ok (.aload_n 0, 1) := by decide +kernel
theorem dX8_count_60 : decode cX8_count 60 = .ok (.getfield 7, 3) := by decide +kernel
theorem dX8_count_63 : decode cX8_count 63 = .ok (.iconst 1, 1) := by decide +kernel
theorem dX8_count_64 : decode cX8_count 64 = .ok (.iaload, 1) := by decide +kernel
theorem dX8_count_65 : decode cX8_count 65 = .ok (.ireturn, 1) := by decide +kernel
theorem dX8_count_66 : decode cX8_count 66 = .ok (.aload_n 0, 1) := by decide +kernel
theorem dX8_count_67 : decode cX8_count 67 = .ok (.getfield 7, 3) := by decide +kernel
theorem dX8_count_70 : decode cX8_count 70 = .ok (.iconst 2, 1) := by decide +kernel
theorem dX8_count_71 : decode cX8_count 71 = .ok (.iaload, 1) := by decide +kernel
theorem dX8_count_72 : decode cX8_count 72 = .ok (.ireturn, 1) := by decide +kernel
theorem dX8_count_73 : decode cX8_count 73 = .ok (.aload_n 0, 1) := by decide +kernel
theorem dX8_count_74 : decode cX8_count 74 = .ok (.getfield 7, 3) := by decide +kernel
theorem dX8_count_77 : decode cX8_count 77 = .ok (.iconst 4, 1) := by decide +kernel
theorem dX8_count_78 : decode cX8_count 78 = .ok (.iaload, 1) := by decide +kernel
theorem dX8_count_79 : decode cX8_count 79 = .ok (.ireturn, 1) := by decide +kernel
theorem dX8_count_80 : decode cX8_count 80 = .ok (.aload_n 0, 1) := by decide +kernel
theorem dX8_count_81 : decode cX8_count 81 = .ok (.iconst 0, 1) := by decide +kernel
theorem dX8_count_82 : decode cX8_count 82 = .ok (.invokevirtual 132, 3) := by decide +kernel
theorem dX8_count_85 : decode cX8_count 85 = .ok (.ireturn, 1) := by decide +kernel
theorem dX8_count_86 : decode cX8_count 86 = .ok (.aload_n 0, 1) := by decide +kernel
theorem dX8_count_87 : decode cX8_count 87 = .ok (.iconst 0, 1) := by decide +kernel
theorem dX8_count_88 : decode cX8_count 88 = .ok (.invokevirtual 135, 3) := by decide +kernel
theorem dX8_count_91 : decode cX8_count 91 = .ok (.ireturn, 1) := by decide +kernel
theorem dX8_count_92 : decode cX8_count 92 = .ok (.aload_n 0, 1) := by decide +kernel
theorem dX8_count_93 : decode cX8_count 93 = .ok (.iconst 5, 1) := by decide +kernel
theorem dX8_count_94 : decode cX8_count 94 = .ok (.aload_n 0, 1) := by decide +kernel
theorem dX8_count_95 : decode cX8_count 95 = .ok (.getfield 7, 3) := by decide +kernel
theorem dX8_count_98 : decode cX8_count 98 = .ok (.iconst 0, 1) := by decide +kernel
theorem dX8_count_99 : decode cX8_count 99 = .ok (.iaload, 1) := by decide +kernel
theorem dX8_count_100 : decode cX8_count 100 = .ok (.invokevirtual 138, 3) := by decide +kernel
theorem dX8_count_103 : decode cX8_count 103 = .ok (.ireturn, 1) := by decide +kernel
theorem dX8_count_104 : decode cX8_count 104 = .ok (.aload_n 0, 1) := by decide +kernel
theorem dX8_count_105 : decode cX8_count 105 = .ok (.bipush 23, 2) := by decide +kernel
theorem dX8_count_107 : decode cX8_count 107 = .ok (.aload_n 0, 1) := by decide +kernel
theorem dX8_count_108 : decode cX8_count 108 = .ok (.getfield 7, 3) := by decide +kernel
theorem dX8_count_111 : decode cX8_count 111 = .ok (.iconst 1, 1) := by decide +kernel
theorem dX8_count_112 : decode cX8_count 112 = .ok (.iaload, 1) := by decide +kernel
theorem dX8_count_113 : decode cX8_count 113 = .ok (.invokevirtual 138, 3) := by decide +kernel
theorem dX8_count_116 : decode cX8_count 116 = .ok (.ireturn, 1) := by decide +kernel
theorem dX8_count_117 : decode cX8_count 117 = .ok (.aload_n 0, 1) := by decide +kernel
theorem dX8_count_118 : decode cX8_count 118 = .ok (.getfield 7, 3) := by decide +kernel
theorem dX8_count_121 : decode cX8_count 121 = .ok (.bipush 44, 2) := by decide +kernel
theorem dX8_count_123 : decode cX8_count 123 = .ok (.iaload, 1) := by decide +kernel
theorem dX8_count_124 : decode cX8_count 124 = .ok (.ireturn, 1) := by decide +kernel
theorem dX8_count_125 : decode cX8_count 125 = .ok (.iconst (-1), 1) := by decide +kernel
theorem dX8_count_126 : decode cX8_count 126 = .ok (.ireturn, 1) := by decide +kernel
set_option maxRecDepth 20000 in
theorem ggX8_canRub_X8_isTorn : GoodIn wsX8_canRub wsX8_isTorn := goodIn_r _ [6, 1, 11, 12, 13, 14, 15, 16, 17, 18, 19, 20, 21, 22, 23, 24, 25] (by decide +kernel) (by decide +kernel)
set_option maxRecDepth 20000 in
theorem gX8_canRub_X8_isTorn : GoodIn wsX8_canRub (wsV RX8 71 RX8 yX8_isTorn wsX8_isTorn) := goodIn_app (goodIn_of _ (by decide +kernel)) ggX8_canRub_X8_isTorn
set_option maxRecDepth 20000 in
theorem ggX8_canRub_X8_isGone : GoodIn wsX8_canRub wsX8_isGone := goodIn_r _ [10, 1, 11, 12, 13, 14, 15, 16, 17, 18, 19, 20, 21, 22, 23, 24, 25] (by decide +kernel) (by decide +kernel)
set_option maxRecDepth 20000 in
theorem gX8_canRub_X8_isGone : GoodIn wsX8_canRub (wsV RX8 67 RX8 yX8_isGone wsX8_isGone) := goodIn_app (goodIn_of _ (by decide +kernel)) ggX8_canRub_X8_isGone
theorem dX8_canRub_0 : decode cX8_canRub 0 = .ok (.aload_n 0, 1) := by decide +kernel
theorem dX8_canRub_1 : decode cX8_canRub 1 = .ok (.getfield 7, 3) := by decide +kernel
theorem dX8_canRub_4 : decode cX8_canRub 4 = .ok (.iload_n 1, 1) := by decide +kernel
theorem dX8_canRub_5 : decode cX8_canRub 5 = .ok (.bipush 23, 2) := by decide +kernel
theorem dX8_canRub_7 : decode cX8_canRub 7 = .ok (.iadd, 1) := by decide +kernel
theorem dX8_canRub_8 : decode cX8_canRub 8 = .ok (.iload_n 2, 1) := by decide +kernel
theorem dX8_canRub_9 : decode cX8_canRub 9 = .ok (.iadd, 1) := by decide +kernel
theorem dX8_canRub_10 : decode cX8_canRub 10 = .ok (.iaload, 1) := by decide +kernel
theorem dX8_canRub_11 : decode cX8_canRub 11 = .ok (.ifCond .le 25, 3) := by decide +kernel
theorem dX8_canRub_14 : decode cX8_canRub 14 = .ok (.aload_n 0, 1) := by decide +kernel
theorem dX8_canRub_15 : decode cX8_canRub 15 = .ok (.iload_n 1, 1) := by decide +kernel
theorem dX8_canRub_16 : decode cX8_canRub 16 = .ok (.iload_n 3, 1) := by decide +kernel
theorem dX8_canRub_17 : decode cX8_canRub 17 = .ok (.invokevirtual 71, 3) := by decide +kernel
theorem dX8_canRub_20 : decode cX8_canRub 20 = .ok (.ifCond .ne 16, 3) := by decide +kernel
theorem dX8_canRub_23 : decode cX8_canRub 23 = .ok (.aload_n 0, 1) := by decide +kernel
theorem dX8_canRub_24 : decode cX8_canRub 24 = .ok (.iload_n 1, 1) := by decide +kernel
theorem dX8_canRub_25 : decode cX8_canRub 25 = .ok (.iload_n 3, 1) := by decide +kernel
theorem dX8_canRub_26 : decode cX8_canRub 26 = .ok (.invokevirtual 67, 3) := by decide +kernel
theorem dX8_canRub_29 : decode cX8_canRub 29 = .ok (.ifCond .ne 7, 3) := by decide +kernel
theorem dX8_canRub_32 : decode cX8_canRub 32 = .ok (.iconst 1, 1) := by decide +kernel
theorem dX8_canRub_33 : decode cX8_canRub 33 = .ok (.goto 4, 3) := by decide +kernel
theorem dX8_canRub_36 : decode cX8_canRub 36 = .ok (.iconst 0, 1) := by decide +kernel
theorem dX8_canRub_37 : decode cX8_canRub 37 = .ok (.ireturn, 1) := by decide +kernel
theorem dX8_lessDark_0 : decode cX8_lessDark 0 = .ok (.iload_n 0, 1) := by decide +kernel
theorem dX8_lessDark_1 : decode cX8_lessDark 1 = .ok (.iconst 2, 1) := by decide +kernel
theorem dX8_lessDark_2 : decode cX8_lessDark 2 = .ok (.if_icmp .eq 8, 3) := by decide +kernel
theorem dX8_lessDark_5 : decode cX8_lessDark 5 = .ok (.iload_n 0, 1) := by decide +kernel
theorem dX8_lessDark_6 : decode cX8_lessDark 6 = .ok (.iconst 4, 1) := by decide +kernel
theorem dX8_lessDark_7 : decode cX8_lessDark 7 = .ok (.if_icmp .ne 8, 3) := by decide +kernel
theorem dX8_lessDark_10 : decode cX8_lessDark 10 = .ok (.bipush 8, 2) := by decide +kernel
theorem dX8_lessDark_12 : decode cX8_lessDark 12 = .ok (.goto 25, 3) := by decide +kernel
theorem dX8_lessDark_15 : decode cX8_lessDark 15 = .ok (.iload_n 0, 1) := by decide +kernel
theorem dX8_lessDark_16 : decode cX8_lessDark 16 = .ok (.iconst 1, 1) := by decide +kernel
theorem dX8_lessDark_17 : decode cX8_lessDark 17 = .ok (.if_icmp .eq 8, 3) := by decide +kernel
theorem dX8_lessDark_20 : decode cX8_lessDark 20 = .ok (.iload_n 0, 1) := by decide +kernel
theorem dX8_lessDark_21 : decode cX8_lessDark 21 = .ok (.iconst 3, 1) := by decide +kernel
theorem dX8_lessDark_22 : decode cX8_lessDark 22 = .ok (.if_icmp .ne 14, 3) := by decide +kernel
theorem dX8_lessDark_25 : decode cX8_lessDark 25 = .ok (.iload_n 1, 1) := by decide +kernel
theorem dX8_lessDark_26 : decode cX8_lessDark 26 = .ok (.bipush 30, 2) := by decide +kernel
theorem dX8_lessDark_28 : decode cX8_lessDark 28 = .ok (.if_icmp .lt 8, 3) := by decide +kernel
theorem dX8_lessDark_31 : decode cX8_lessDark 31 = .ok (.bipush 6, 2) := by decide +kernel
theorem dX8_lessDark_33 : decode cX8_lessDark 33 = .ok (.goto 4, 3) := by decide +kernel
theorem dX8_lessDark_36 : decode cX8_lessDark 36 = .ok (.iconst 4, 1) := by decide +kernel
theorem dX8_lessDark_37 : decode cX8_lessDark 37 = .ok (.ireturn, 1) := by decide +kernel
theorem dX8_lessSize_0 : decode cX8_lessSize 0 = .ok (.iload_n 0, 1) := by decide +kernel
theorem dX8_lessSize_1 : decode cX8_lessSize 1 = .ok (.iconst 3, 1) := by decide +kernel
theorem dX8_lessSize_2 : decode cX8_lessSize 2 = .ok (.if_icmp .ne 11, 3) := by decide +kernel
theorem dX8_lessSize_5 : decode cX8_lessSize 5 = .ok (.iload_n 1, 1) := by decide +kernel
theorem dX8_lessSize_6 : decode cX8_lessSize 6 = .ok (.iconst 2, 1) := by decide +kernel
theorem dX8_lessSize_7 : decode cX8_lessSize 7 = .ok (.idiv, 1) := by decide +kernel
theorem dX8_lessSize_8 : decode cX8_lessSize 8 = .ok (.iconst 1, 1) := by decide +kernel
theorem dX8_lessSize_9 : decode cX8_lessSize 9 = .ok (.iadd, 1) := by decide +kernel
theorem dX8_lessSize_10 : decode cX8_lessSize 10 = .ok (.goto 13, 3) := by decide +kernel
theorem dX8_lessSize_13 : decode cX8_lessSize 13 = .ok (.iload_n 0, 1) := by decide +kernel
theorem dX8_lessSize_14 : decode cX8_lessSize 14 = .ok (.iconst 4, 1) := by decide +kernel
theorem dX8_lessSize_15 : decode cX8_lessSize 15 = .ok (.if_icmp .ne 7, 3) := by decide +kernel
theorem dX8_lessSize_18 : decode cX8_lessSize 18 = .ok (.iconst 1, 1) := by decide +kernel
theorem dX8_lessSize_19 : decode cX8_lessSize 19 = .ok (.goto 4, 3) := by decide +kernel
theorem dX8_lessSize_22 : decode cX8_lessSize 22 = .ok (.iload_n 1, 1) := by decide +kernel
theorem dX8_lessSize_23 : decode cX8_lessSize 23 = .ok (.ireturn, 1) := by decide +kernel
theorem dX8_moreWool_0 : decode cX8_moreWool 0 = .ok (.iload_n 0, 1) := by decide +kernel
theorem dX8_moreWool_1 : decode cX8_moreWool 1 = .ok (.iconst 2, 1) := by decide +kernel
theorem dX8_moreWool_2 : decode cX8_moreWool 2 = .ok (.if_icmp .ne 7, 3) := by decide +kernel
theorem dX8_moreWool_5 : decode cX8_moreWool 5 = .ok (.iconst 3, 1) := by decide +kernel
theorem dX8_moreWool_6 : decode cX8_moreWool 6 = .ok (.goto 13, 3) := by decide +kernel
theorem dX8_moreWool_9 : decode cX8_moreWool 9 = .ok (.iload_n 0, 1) := by decide +kernel
theorem dX8_moreWool_10 : decode cX8_moreWool 10 = .ok (.iconst 4, 1) := by decide +kernel
theorem dX8_moreWool_11 : decode cX8_moreWool 11 = .ok (.if_icmp .ne 7, 3) := by decide +kernel
theorem dX8_moreWool_14 : decode cX8_moreWool 14 = .ok (.iconst 2, 1) := by decide +kernel
theorem dX8_moreWool_15 : decode cX8_moreWool 15 = .ok (.goto 4, 3) := by decide +kernel
theorem dX8_moreWool_18 : decode cX8_moreWool 18 = .ok (.iconst 1, 1) := by decide +kernel
theorem dX8_moreWool_19 : decode cX8_moreWool 19 = .ok (.ireturn, 1) := by decide +kernel
theorem dX8_less_0 : decode cX8_less 0 = .ok (.iload_n 0, 1) := by decide +kernel
theorem dX8_less_1 : decode cX8_less 1 = .ok (.iload_n 1, 1) := by decide +kernel
theorem dX8_less_2 : decode cX8_less 2 = .ok (.if_icmp .ge 7, 3) := by decide +kernel
theorem dX8_less_5 : decode cX8_less 5 = .ok (.iconst 0, 1) := by decide +kernel
theorem dX8_less_6 : decode cX8_less 6 = .ok (.goto 6, 3) := by decide +kernel
theorem dX8_less_9 : decode cX8_less 9 = .ok (.iload_n 0, 1) := by decide +kernel
theorem dX8_less_10 : decode cX8_less 10 = .ok (.iload_n 1, 1) := by decide +kernel
theorem dX8_less_11 : decode cX8_less 11 = .ok (.isub, 1) := by decide +kernel
theorem dX8_less_12 : decode cX8_less 12 = .ok (.ireturn, 1) := by decide +kernel
set_option maxRecDepth 20000 in
theorem ggX8_rubs_X8_lessDark : GoodIn wsX8_rubs wsX8_lessDark := goodIn_r _ [5] (by decide +kernel) (by decide +kernel)
set_option maxRecDepth 20000 in
theorem gX8_rubs_X8_lessDark : GoodIn wsX8_rubs (va_wsS RX8 142 yX8_lessDark wsX8_lessDark) := goodIn_app (goodIn_of _ (by decide +kernel)) ggX8_rubs_X8_lessDark
set_option maxRecDepth 20000 in
theorem ggX8_rubs_X8_less : GoodIn wsX8_rubs wsX8_less := goodIn_r _ [8] (by decide +kernel) (by decide +kernel)
set_option maxRecDepth 20000 in
theorem gX8_rubs_X8_less : GoodIn wsX8_rubs (va_wsS RX8 145 yX8_less wsX8_less) := goodIn_app (goodIn_of _ (by decide +kernel)) ggX8_rubs_X8_less
set_option maxRecDepth 20000 in
theorem ggX8_rubs_X8_lessSize : GoodIn wsX8_rubs wsX8_lessSize := goodIn_r _ [11] (by decide +kernel) (by decide +kernel)
set_option maxRecDepth 20000 in
theorem gX8_rubs_X8_lessSize : GoodIn wsX8_rubs (va_wsS RX8 148 yX8_lessSize wsX8_lessSize) := goodIn_app (goodIn_of _ (by decide +kernel)) ggX8_rubs_X8_lessSize
set_option maxRecDepth 20000 in
theorem ggX8_rubs_X8_moreWool : GoodIn wsX8_rubs wsX8_moreWool := goodIn_r _ [14] (by decide +kernel) (by decide +kernel)
set_option maxRecDepth 20000 in
theorem gX8_rubs_X8_moreWool : GoodIn wsX8_rubs (va_wsS RX8 151 yX8_moreWool wsX8_moreWool) := goodIn_app (goodIn_of _ (by decide +kernel)) ggX8_rubs_X8_moreWool
set_option maxRecDepth 20000 in
theorem ggX8_rubs_X8_isTorn : GoodIn wsX8_rubs wsX8_isTorn := goodIn_r _ [18, 1, 19, 20, 21, 22, 23, 24, 25, 26, 27, 28, 29, 30, 31, 32, 33] (by decide +kernel) (by decide +kernel)
set_option maxRecDepth 20000 in
theorem gX8_rubs_X8_isTorn : GoodIn wsX8_rubs (wsV RX8 71 RX8 yX8_isTorn wsX8_isTorn) := goodIn_app (goodIn_of _ (by decide +kernel)) ggX8_rubs_X8_isTorn
theorem dX8_rubs_0 : decode cX8_rubs 0 = .ok (.aload_n 0, 1) := by decide +kernel
theorem dX8_rubs_1 : decode cX8_rubs 1 = .ok (.getfield 7, 3) := by decide +kernel
theorem dX8_rubs_4 : decode cX8_rubs 4 = .ok (.iload_n 1, 1) := by decide +kernel
theorem dX8_rubs_5 : decode cX8_rubs 5 = .ok (.bipush 39, 2) := by decide +kernel
theorem dX8_rubs_7 : decode cX8_rubs 7 = .ok (.iadd, 1) := by decide +kernel
theorem dX8_rubs_8 : decode cX8_rubs 8 = .ok (.iload_n 2, 1) := by decide +kernel
theorem dX8_rubs_9 : decode cX8_rubs 9 = .ok (.iadd, 1) := by decide +kernel
theorem dX8_rubs_10 : decode cX8_rubs 10 = .ok (.iaload, 1) := by decide +kernel
theorem dX8_rubs_11 : decode cX8_rubs 11 = .ok (.istore 4, 2) := by decide +kernel
theorem dX8_rubs_13 : decode cX8_rubs 13 = .ok (.aload_n 0, 1) := by decide +kernel
theorem dX8_rubs_14 : decode cX8_rubs 14 = .ok (.getfield 7, 3) := by decide +kernel
theorem dX8_rubs_17 : decode cX8_rubs 17 = .ok (.iload_n 1, 1) := by decide +kernel
theorem dX8_rubs_18 : decode cX8_rubs 18 = .ok (.bipush 23, 2) := by decide +kernel
theorem dX8_rubs_20 : decode cX8_rubs 20 = .ok (.iadd, 1) := by decide +kernel
theorem dX8_rubs_21 : decode cX8_rubs 21 = .ok (.iload_n 2, 1) := by decide +kernel
theorem dX8_rubs_22 : decode cX8_rubs 22 = .ok (.iadd, 1) := by decide +kernel
theorem dX8_rubs_23 : decode cX8_rubs 23 = .ok (.iaload, 1) := by decide +kernel
theorem dX8_rubs_24 : decode cX8_rubs 24 = .ok (.istore 5, 2) := by decide +kernel
theorem dX8_rubs_26 : decode cX8_rubs 26 = .ok (.aload_n 0, 1) := by decide +kernel
theorem dX8_rubs_27 : decode cX8_rubs 27 = .ok (.getfield 7, 3) := by decide +kernel
theorem dX8_rubs_30 : decode cX8_rubs 30 = .ok (.iload_n 1, 1) := by decide +kernel
theorem dX8_rubs_31 : decode cX8_rubs 31 = .ok (.iconst 5, 1) := by decide +kernel
theorem dX8_rubs_32 : decode cX8_rubs 32 = .ok (.iadd, 1) := by decide +kernel
theorem dX8_rubs_33 : decode cX8_rubs 33 = .ok (.iload_n 3, 1) := by decide +kernel
theorem dX8_rubs_34 : decode cX8_rubs 34 = .ok (.iadd, 1) := by decide +kernel
theorem dX8_rubs_35 : decode cX8_rubs 35 = .ok (.aload_n 0, 1) := by decide +kernel
theorem dX8_rubs_36 : decode cX8_rubs 36 = .ok (.getfield 7, 3) := by decide +kernel
theorem dX8_rubs_39 : decode cX8_rubs 39 = .ok (.iload_n 1, 1) := by decide +kernel
theorem dX8_rubs_40 : decode cX8_rubs 40 = .ok (.iconst 5, 1) := by decide +kernel
theorem dX8_rubs_41 : decode cX8_rubs 41 = .ok (.iadd, 1) := by decide +kernel
theorem dX8_rubs_42 : decode cX8_rubs 42 = .ok (.iload_n 3, 1) := by decide +kernel
theorem dX8_rubs_43 : decode cX8_rubs 43 = .ok (.iadd, 1) := by decide +kernel
theorem dX8_rubs_44 : decode cX8_rubs 44 = .ok (.iaload, 1) := by decide +kernel
theorem dX8_rubs_45 : decode cX8_rubs 45 = .ok (.iload 4, 2) := by decide +kernel
theorem dX8_rubs_47 : decode cX8_rubs 47 = .ok (.iload 5, 2) := by decide +kernel
theorem dX8_rubs_49 : decode cX8_rubs 49 = .ok (.invokestatic 142, 3) := by decide +kernel
theorem dX8_rubs_52 : decode cX8_rubs 52 = .ok (.invokestatic 145, 3) := by decide +kernel
theorem dX8_rubs_55 : decode cX8_rubs 55 = .ok (.iastore, 1) := by decide +kernel
theorem dX8_rubs_56 : decode cX8_rubs 56 = .ok (.aload_n 0, 1) := by decide +kernel
theorem dX8_rubs_57 : decode cX8_rubs 57 = .ok (.getfield 7, 3) := by decide +kernel
theorem dX8_rubs_60 : decode cX8_rubs 60 = .ok (.iload_n 1, 1) := by decide +kernel
theorem dX8_rubs_61 : decode cX8_rubs 61 = .ok (.bipush 23, 2) := by decide +kernel
theorem dX8_rubs_63 : decode cX8_rubs 63 = .ok (.iadd, 1) := by decide +kernel
theorem dX8_rubs_64 : decode cX8_rubs 64 = .ok (.iload_n 2, 1) := by decide +kernel
theorem dX8_rubs_65 : decode cX8_rubs 65 = .ok (.iadd, 1) := by decide +kernel
theorem dX8_rubs_66 : decode cX8_rubs 66 = .ok (.iload 5, 2) := by decide +kernel
theorem dX8_rubs_68 : decode cX8_rubs 68 = .ok (.iload 4, 2) := by decide +kernel
theorem dX8_rubs_70 : decode cX8_rubs 70 = .ok (.aload_n 0, 1) := by decide +kernel
theorem dX8_rubs_71 : decode cX8_rubs 71 = .ok (.getfield 7, 3) := by decide +kernel
theorem dX8_rubs_74 : decode cX8_rubs 74 = .ok (.iload_n 1, 1) := by decide +kernel
theorem dX8_rubs_75 : decode cX8_rubs 75 = .ok (.bipush 33, 2) := by decide +kernel
theorem dX8_rubs_77 : decode cX8_rubs 77 = .ok (.iadd, 1) := by decide +kernel
theorem dX8_rubs_78 : decode cX8_rubs 78 = .ok (.iload_n 3, 1) := by decide +kernel
theorem dX8_rubs_79 : decode cX8_rubs 79 = .ok (.iadd, 1) := by decide +kernel
theorem dX8_rubs_80 : decode cX8_rubs 80 = .ok (.iaload, 1) := by decide +kernel
theorem dX8_rubs_81 : decode cX8_rubs 81 = .ok (.invokestatic 148, 3) := by decide +kernel
theorem dX8_rubs_84 : decode cX8_rubs 84 = .ok (.invokestatic 145, 3) := by decide +kernel
theorem dX8_rubs_87 : decode cX8_rubs 87 = .ok (.iastore, 1) := by decide +kernel
theorem dX8_rubs_88 : decode cX8_rubs 88 = .ok (.aload_n 0, 1) := by decide +kernel
theorem dX8_rubs_89 : decode cX8_rubs 89 = .ok (.getfield 7, 3) := by decide +kernel
theorem dX8_rubs_92 : decode cX8_rubs 92 = .ok (.iload_n 1, 1) := by decide +kernel
theorem dX8_rubs_93 : decode cX8_rubs 93 = .ok (.iconst 4, 1) := by decide +kernel
theorem dX8_rubs_94 : decode cX8_rubs 94 = .ok (.iadd, 1) := by decide +kernel
theorem dX8_rubs_95 : decode cX8_rubs 95 = .ok (.dup2, 1) := by decide +kernel
theorem dX8_rubs_96 : decode cX8_rubs 96 = .ok (.iaload, 1) := by decide +kernel
theorem dX8_rubs_97 : decode cX8_rubs 97 = .ok (.iload 5, 2) := by decide +kernel
theorem dX8_rubs_99 : decode cX8_rubs 99 = .ok (.aload_n 0, 1) := by decide +kernel
theorem dX8_rubs_100 : decode cX8_rubs 100 = .ok (.getfield 7, 3) := by decide +kernel
theorem dX8_rubs_103 : decode cX8_rubs 103 = .ok (.iload_n 1, 1) := by decide +kernel
theorem dX8_rubs_104 : decode cX8_rubs 104 = .ok (.bipush 23, 2) := by decide +kernel
theorem dX8_rubs_106 : decode cX8_rubs 106 = .ok (.iadd, 1) := by decide +kernel
theorem dX8_rubs_107 : decode cX8_rubs 107 = .ok (.iload_n 2, 1) := by decide +kernel
theorem dX8_rubs_108 : decode cX8_rubs 108 = .ok (.iadd, 1) := by decide +kernel
theorem dX8_rubs_109 : decode cX8_rubs 109 = .ok (.iaload, 1) := by decide +kernel
theorem dX8_rubs_110 : decode cX8_rubs 110 = .ok (.isub, 1) := by decide +kernel
theorem dX8_rubs_111 : decode cX8_rubs 111 = .ok (.iadd, 1) := by decide +kernel
theorem dX8_rubs_112 : decode cX8_rubs 112 = .ok (.iastore, 1) := by decide +kernel
theorem dX8_rubs_113 : decode cX8_rubs 113 = .ok (.aload_n 0, 1) := by decide +kernel
theorem dX8_rubs_114 : decode cX8_rubs 114 = .ok (.getfield 7, 3) := by decide +kernel
theorem dX8_rubs_117 : decode cX8_rubs 117 = .ok (.iload_n 1, 1) := by decide +kernel
theorem dX8_rubs_118 : decode cX8_rubs 118 = .ok (.bipush 17, 2) := by decide +kernel
theorem dX8_rubs_120 : decode cX8_rubs 120 = .ok (.iadd, 1) := by decide +kernel
theorem dX8_rubs_121 : decode cX8_rubs 121 = .ok (.iload_n 3, 1) := by decide +kernel
theorem dX8_rubs_122 : decode cX8_rubs 122 = .ok (.iadd, 1) := by decide +kernel
theorem dX8_rubs_123 : decode cX8_rubs 123 = .ok (.iaload, 1) := by decide +kernel
theorem dX8_rubs_124 : decode cX8_rubs 124 = .ok (.iload 4, 2) := by decide +kernel
theorem dX8_rubs_126 : decode cX8_rubs 126 = .ok (.invokestatic 151, 3) := by decide +kernel
theorem dX8_rubs_129 : decode cX8_rubs 129 = .ok (.iadd, 1) := by decide +kernel
theorem dX8_rubs_130 : decode cX8_rubs 130 = .ok (.istore 6, 2) := by decide +kernel
theorem dX8_rubs_132 : decode cX8_rubs 132 = .ok (.aload_n 0, 1) := by decide +kernel
theorem dX8_rubs_133 : decode cX8_rubs 133 = .ok (.getfield 7, 3) := by decide +kernel
theorem dX8_rubs_136 : decode cX8_rubs 136 = .ok (.iload_n 1, 1) := by decide +kernel
theorem dX8_rubs_137 : decode cX8_rubs 137 = .ok (.bipush 17, 2) := by decide +kernel
theorem dX8_rubs_139 : decode cX8_rubs 139 = .ok (.iadd, 1) := by decide +kernel
theorem dX8_rubs_140 : decode cX8_rubs 140 = .ok (.iload_n 3, 1) := by decide +kernel
theorem dX8_rubs_141 : decode cX8_rubs 141 = .ok (.iadd, 1) := by decide +kernel
theorem dX8_rubs_142 : decode cX8_rubs 142 = .ok (.iload 6, 2) := by decide +kernel
theorem dX8_rubs_144 : decode cX8_rubs 144 = .ok (.bipush 20, 2) := by decide +kernel
theorem dX8_rubs_146 : decode cX8_rubs 146 = .ok (.if_icmp .le 8, 3) := by decide +kernel
theorem dX8_rubs_149 : decode cX8_rubs 149 = .ok (.bipush 20, 2) := by decide +kernel
theorem dX8_rubs_151 : decode cX8_rubs 151 = .ok (.goto 5, 3) := by decide +kernel
theorem dX8_rubs_154 : decode cX8_rubs 154 = .ok (.iload 6, 2) := by decide +kernel
theorem dX8_rubs_156 : decode cX8_rubs 156 = .ok (.iastore, 1) := by decide +kernel
theorem dX8_rubs_157 : decode cX8_rubs 157 = .ok (.aload_n 0, 1) := by decide +kernel
theorem dX8_rubs_158 : decode cX8_rubs 158 = .ok (.getfield 7, 3) := by decide +kernel
theorem dX8_rubs_161 : decode cX8_rubs 161 = .ok (.iload_n 1, 1) := by decide +kernel
theorem dX8_rubs_162 : decode cX8_rubs 162 = .ok (.iconst 5, 1) := by decide +kernel
theorem dX8_rubs_163 : decode cX8_rubs 163 = .ok (.iadd, 1) := by decide +kernel
theorem dX8_rubs_164 : decode cX8_rubs 164 = .ok (.iload_n 3, 1) := by decide +kernel
theorem dX8_rubs_165 : decode cX8_rubs 165 = .ok (.iadd, 1) := by decide +kernel
theorem dX8_rubs_166 : decode cX8_rubs 166 = .ok (.iaload, 1) := by decide +kernel
theorem dX8_rubs_167 : decode cX8_rubs 167 = .ok (.ifCond .ne 45, 3) := by decide +kernel
theorem dX8_rubs_170 : decode cX8_rubs 170 = .ok (.aload_n 0, 1) := by decide +kernel
theorem dX8_rubs_171 : decode cX8_rubs 171 = .ok (.iload_n 1, 1) := by decide +kernel
theorem dX8_rubs_172 : decode cX8_rubs 172 = .ok (.iload_n 3, 1) := by decide +kernel
theorem dX8_rubs_173 : decode cX8_rubs 173 = .ok (.invokevirtual 71, 3) := by decide +kernel
theorem dX8_rubs_176 : decode cX8_rubs 176 = .ok (.ifCond .ne 36, 3) := by decide +kernel
theorem dX8_rubs_179 : decode cX8_rubs 179 = .ok (.aload_n 0, 1) := by decide +kernel
theorem dX8_rubs_180 : decode cX8_rubs 180 = .ok (.getfield 7, 3) := by decide +kernel
theorem dX8_rubs_183 : decode cX8_rubs 183 = .ok (.iload_n 1, 1) := by decide +kernel
theorem dX8_rubs_184 : decode cX8_rubs 184 = .ok (.iconst 5, 1) := by decide +kernel
theorem dX8_rubs_185 : decode cX8_rubs 185 = .ok (.iadd, 1) := by decide +kernel
theorem dX8_rubs_186 : decode cX8_rubs 186 = .ok (.iload_n 3, 1) := by decide +kernel
theorem dX8_rubs_187 : decode cX8_rubs 187 = .ok (.iadd, 1) := by decide +kernel
theorem dX8_rubs_188 : decode cX8_rubs 188 = .ok (.aload_n 0, 1) := by decide +kernel
theorem dX8_rubs_189 : decode cX8_rubs 189 = .ok (.getfield 7, 3) := by decide +kernel
theorem dX8_rubs_192 : decode cX8_rubs 192 = .ok (.iload_n 1, 1) := by decide +kernel
theorem dX8_rubs_193 : decode cX8_rubs 193 = .ok (.bipush 11, 2) := by decide +kernel
theorem dX8_rubs_195 : decode cX8_rubs 195 = .ok (.iadd, 1) := by decide +kernel
theorem dX8_rubs_196 : decode cX8_rubs 196 = .ok (.iload_n 3, 1) := by decide +kernel
theorem dX8_rubs_197 : decode cX8_rubs 197 = .ok (.iadd, 1) := by decide +kernel
theorem dX8_rubs_198 : decode cX8_rubs 198 = .ok (.iaload, 1) := by decide +kernel
theorem dX8_rubs_199 : decode cX8_rubs 199 = .ok (.iastore, 1) := by decide +kernel
theorem dX8_rubs_200 : decode cX8_rubs 200 = .ok (.aload_n 0, 1) := by decide +kernel
theorem dX8_rubs_201 : decode cX8_rubs 201 = .ok (.getfield 7, 3) := by decide +kernel
theorem dX8_rubs_204 : decode cX8_rubs 204 = .ok (.iload_n 1, 1) := by decide +kernel
theorem dX8_rubs_205 : decode cX8_rubs 205 = .ok (.bipush 11, 2) := by decide +kernel
theorem dX8_rubs_207 : decode cX8_rubs 207 = .ok (.iadd, 1) := by decide +kernel
theorem dX8_rubs_208 : decode cX8_rubs 208 = .ok (.iload_n 3, 1) := by decide +kernel
theorem dX8_rubs_209 : decode cX8_rubs 209 = .ok (.iadd, 1) := by decide +kernel
theorem dX8_rubs_210 : decode cX8_rubs 210 = .ok (.iconst 0, 1) := by decide +kernel
theorem dX8_rubs_211 : decode cX8_rubs 211 = .ok (.iastore, 1) := by decide +kernel
theorem dX8_rubs_212 : decode cX8_rubs 212 = .ok (.return_, 1) := by decide +kernel
set_option maxRecDepth 20000 in
theorem ggX8_passes_X8_has : GoodIn wsX8_passes wsX8_has := goodIn_r _ [5] (by decide +kernel) (by decide +kernel)
set_option maxRecDepth 20000 in
theorem gX8_passes_X8_has : GoodIn wsX8_passes (va_wsS RX8 154 yX8_has wsX8_has) := goodIn_app (goodIn_of _ (by decide +kernel)) ggX8_passes_X8_has
set_option maxRecDepth 20000 in
theorem ggX8_passes_X8_canRub : GoodIn wsX8_passes wsX8_canRub := goodIn_r _ [9, 1, 10, 11, 12, 4, 13, 14, 15, 16, 17, 34, 35, 36, 37, 38, 39, 40, 41, 42, 43, 44, 45, 46, 47, 48] (by decide +kernel) (by decide +kernel)
set_option maxRecDepth 20000 in
theorem gX8_passes_X8_canRub : GoodIn wsX8_passes (wsV RX8 157 RX8 yX8_canRub wsX8_canRub) := goodIn_app (goodIn_of _ (by decide +kernel)) ggX8_passes_X8_canRub
set_option maxRecDepth 20000 in
theorem ggX8_passes_X8_rubs : GoodIn wsX8_passes wsX8_rubs := goodIn_r _ [21, 1, 22, 23, 4, 24, 25, 26, 27, 28, 29, 30, 31, 32, 33, 10, 11, 12, 13, 34, 35, 36, 37, 38, 39, 40, 41, 42, 43, 44, 45, 46, 47, 48] (by decide +kernel) (by decide +kernel)
set_option maxRecDepth 20000 in
theorem gX8_passes_X8_rubs : GoodIn wsX8_passes (wsV RX8 161 RX8 yX8_rubs wsX8_rubs) := goodIn_app (goodIn_of _ (by decide +kernel)) ggX8_passes_X8_rubs
theorem dX8_passes_0 : decode cX8_passes 0 = .ok (.iconst 0, 1) := by decide +kernel
theorem dX8_passes_1 : decode cX8_passes 1 = .ok (.istore_n 3, 1) := by decide +kernel
theorem dX8_passes_2 : decode cX8_passes 2 = .ok (.iload_n 3, 1) := by decide +kernel
theorem dX8_passes_3 : decode cX8_passes 3 = .ok (.aload_n 0, 1) := by decide +kernel
theorem dX8_passes_4 : decode cX8_passes 4 = .ok (.getfield 7, 3) := by decide +kernel
theorem dX8_passes_7 : decode cX8_passes 7 = .ok (.iload_n 1, 1) := by decide +kernel
theorem dX8_passes_8 : decode cX8_passes 8 = .ok (.iconst 1, 1) := by decide +kernel
theorem dX8_passes_9 : decode cX8_passes 9 = .ok (.iadd, 1) := by decide +kernel
theorem dX8_passes_10 : decode cX8_passes 10 = .ok (.iaload, 1) := by decide +kernel
theorem dX8_passes_11 : decode cX8_passes 11 = .ok (.if_icmp .ge 56, 3) := by decide +kernel
theorem dX8_passes_14 : decode cX8_passes 14 = .ok (.aload_n 0, 1) := by decide +kernel
theorem dX8_passes_15 : decode cX8_passes 15 = .ok (.getfield 7, 3) := by decide +kernel
theorem dX8_passes_18 : decode cX8_passes 18 = .ok (.iload_n 1, 1) := by decide +kernel
theorem dX8_passes_19 : decode cX8_passes 19 = .ok (.bipush 28, 2) := by decide +kernel
theorem dX8_passes_21 : decode cX8_passes 21 = .ok (.iadd, 1) := by decide +kernel
theorem dX8_passes_22 : decode cX8_passes 22 = .ok (.iload_n 3, 1) := by decide +kernel
theorem dX8_passes_23 : decode cX8_passes 23 = .ok (.iadd, 1) := by decide +kernel
theorem dX8_passes_24 : decode cX8_passes 24 = .ok (.iaload, 1) := by decide +kernel
theorem dX8_passes_25 : decode cX8_passes 25 = .ok (.istore 4, 2) := by decide +kernel
theorem dX8_passes_27 : decode cX8_passes 27 = .ok (.iload 4, 2) := by decide +kernel
theorem dX8_passes_29 : decode cX8_passes 29 = .ok (.bipush (-4), 2) := by decide +kernel
theorem dX8_passes_31 : decode cX8_passes 31 = .ok (.if_icmp .eq 30, 3) := by decide +kernel
theorem dX8_passes_34 : decode cX8_passes 34 = .ok (.iload_n 2, 1) := by decide +kernel
theorem dX8_passes_35 : decode cX8_passes 35 = .ok (.iload_n 3, 1) := by decide +kernel
theorem dX8_passes_36 : decode cX8_passes 36 = .ok (.invokestatic 154, 3) := by decide +kernel
theorem dX8_passes_39 : decode cX8_passes 39 = .ok (.ifCond .ne 22, 3) := by decide +kernel
theorem dX8_passes_42 : decode cX8_passes 42 = .ok (.aload_n 0, 1) := by decide +kernel
theorem dX8_passes_43 : decode cX8_passes 43 = .ok (.iload_n 1, 1) := by decide +kernel
theorem dX8_passes_44 : decode cX8_passes 44 = .ok (.iload_n 3, 1) := by decide +kernel
theorem dX8_passes_45 : decode cX8_passes 45 = .ok (.iload 4, 2) := by decide +kernel
theorem dX8_passes_47 : decode cX8_passes 47 = .ok (.invokevirtual 157, 3) := by decide +kernel
theorem dX8_passes_50 : decode cX8_passes 50 = .ok (.ifCond .eq 11, 3) := by decide +kernel
theorem dX8_passes_53 : decode cX8_passes 53 = .ok (.aload_n 0, 1) := by decide +kernel
theorem dX8_passes_54 : decode cX8_passes 54 = .ok (.iload_n 1, 1) := by decide +kernel
theorem dX8_passes_55 : decode cX8_passes 55 = .ok (.iload_n 3, 1) := by decide +kernel
theorem dX8_passes_56 : decode cX8_passes 56 = .ok (.iload 4, 2) := by decide +kernel
theorem dX8_passes_58 : decode cX8_passes 58 = .ok (.invokevirtual 161, 3) := by decide +kernel
theorem dX8_passes_61 : decode cX8_passes 61 = .ok (.iinc 3 1, 3) := by decide +kernel
theorem dX8_passes_64 : decode cX8_passes 64 = .ok (.goto (-62), 3) := by decide +kernel
theorem dX8_passes_67 : decode cX8_passes 67 = .ok (.aload_n 0, 1) := by decide +kernel
theorem dX8_passes_68 : decode cX8_passes 68 = .ok (.getfield 7, 3) := by decide +kernel
theorem dX8_passes_71 : decode cX8_passes 71 = .ok (.iload_n 1, 1) := by decide +kernel
theorem dX8_passes_72 : decode cX8_passes 72 = .ok (.iconst 2, 1) := by decide +kernel
theorem dX8_passes_73 : decode cX8_passes 73 = .ok (.iadd, 1) := by decide +kernel
theorem dX8_passes_74 : decode cX8_passes 74 = .ok (.dup2, 1) := by decide +kernel
theorem dX8_passes_75 : decode cX8_passes 75 = .ok (.iaload, 1) := by decide +kernel
theorem dX8_passes_76 : decode cX8_passes 76 = .ok (.iconst 1, 1) := by decide +kernel
theorem dX8_passes_77 : decode cX8_passes 77 = .ok (.iadd, 1) := by decide +kernel
theorem dX8_passes_78 : decode cX8_passes 78 = .ok (.iastore, 1) := by decide +kernel
theorem dX8_passes_79 : decode cX8_passes 79 = .ok (.return_, 1) := by decide +kernel
set_option maxRecDepth 20000 in
theorem ggX8_minds_X8_bring : GoodIn wsX8_minds wsX8_bring := goodIn_r _ [6, 1, 7, 8, 9, 10, 11, 12, 13, 14, 15, 16, 17, 18, 19, 20, 21] (by decide +kernel) (by decide +kernel)
set_option maxRecDepth 20000 in
theorem gX8_minds_X8_bring : GoodIn wsX8_minds (wsV RX8 128 RX8 yX8_bring wsX8_bring) := goodIn_app (goodIn_of _ (by decide +kernel)) ggX8_minds_X8_bring
theorem dX8_minds_0 : decode cX8_minds 0 = .ok (.aload_n 0, 1) := by decide +kernel
theorem dX8_minds_1 : decode cX8_minds 1 = .ok (.getfield 7, 3) := by decide +kernel
theorem dX8_minds_4 : decode cX8_minds 4 = .ok (.bipush 44, 2) := by decide +kernel
theorem dX8_minds_6 : decode cX8_minds 6 = .ok (.iaload, 1) := by decide +kernel
theorem dX8_minds_7 : decode cX8_minds 7 = .ok (.bipush 8, 2) := by decide +kernel
theorem dX8_minds_9 : decode cX8_minds 9 = .ok (.if_icmp .ne 25, 3) := by decide +kernel
theorem dX8_minds_12 : decode cX8_minds 12 = .ok (.aload_n 0, 1) := by decide +kernel
theorem dX8_minds_13 : decode cX8_minds 13 = .ok (.bipush 76, 2) := by decide +kernel
theorem dX8_minds_15 : decode cX8_minds 15 = .ok (.bipush 45, 2) := by decide +kernel
theorem dX8_minds_17 : decode cX8_minds 17 = .ok (.sipush 217, 3) := by decide +kernel
theorem dX8_minds_20 : decode cX8_minds 20 = .ok (.invokevirtual 128, 3) := by decide +kernel
theorem dX8_minds_23 : decode cX8_minds 23 = .ok (.aload_n 0, 1) := by decide +kernel
theorem dX8_minds_24 : decode cX8_minds 24 = .ok (.getfield 7, 3) := by decide +kernel
theorem dX8_minds_27 : decode cX8_minds 27 = .ok (.bipush 44, 2) := by decide +kernel
theorem dX8_minds_29 : decode cX8_minds 29 = .ok (.dup2, 1) := by decide +kernel
theorem dX8_minds_30 : decode cX8_minds 30 = .ok (.iaload, 1) := by decide +kernel
theorem dX8_minds_31 : decode cX8_minds 31 = .ok (.iconst 1, 1) := by decide +kernel
theorem dX8_minds_32 : decode cX8_minds 32 = .ok (.isub, 1) := by decide +kernel
theorem dX8_minds_33 : decode cX8_minds 33 = .ok (.iastore, 1) := by decide +kernel
theorem dX8_minds_34 : decode cX8_minds 34 = .ok (.aload_n 0, 1) := by decide +kernel
theorem dX8_minds_35 : decode cX8_minds 35 = .ok (.iconst 2, 1) := by decide +kernel
theorem dX8_minds_36 : decode cX8_minds 36 = .ok (.bipush 45, 2) := by decide +kernel
theorem dX8_minds_38 : decode cX8_minds 38 = .ok (.bipush 31, 2) := by decide +kernel
theorem dX8_minds_40 : decode cX8_minds 40 = .ok (.aload_n 0, 1) := by decide +kernel
theorem dX8_minds_41 : decode cX8_minds 41 = .ok (.getfield 7, 3) := by decide +kernel
theorem dX8_minds_44 : decode cX8_minds 44 = .ok (.bipush 44, 2) := by decide +kernel
theorem dX8_minds_46 : decode cX8_minds 46 = .ok (.iaload, 1) := by decide +kernel
theorem dX8_minds_47 : decode cX8_minds 47 = .ok (.imul, 1) := by decide +kernel
theorem dX8_minds_48 : decode cX8_minds 48 = .ok (.iadd, 1) := by decide +kernel
theorem dX8_minds_49 : decode cX8_minds 49 = .ok (.bipush 31, 2) := by decide +kernel
theorem dX8_minds_51 : decode cX8_minds 51 = .ok (.invokevirtual 128, 3) := by decide +kernel
theorem dX8_minds_54 : decode cX8_minds 54 = .ok (.aload_n 0, 1) := by decide +kernel
theorem dX8_minds_55 : decode cX8_minds 55 = .ok (.getfield 7, 3) := by decide +kernel
theorem dX8_minds_58 : decode cX8_minds 58 = .ok (.bipush 44, 2) := by decide +kernel
theorem dX8_minds_60 : decode cX8_minds 60 = .ok (.dup2, 1) := by decide +kernel
theorem dX8_minds_61 : decode cX8_minds 61 = .ok (.iaload, 1) := by decide +kernel
theorem dX8_minds_62 : decode cX8_minds 62 = .ok (.iconst 1, 1) := by decide +kernel
theorem dX8_minds_63 : decode cX8_minds 63 = .ok (.iadd, 1) := by decide +kernel
theorem dX8_minds_64 : decode cX8_minds 64 = .ok (.iastore, 1) := by decide +kernel
theorem dX8_minds_65 : decode cX8_minds 65 = .ok (.return_, 1) := by decide +kernel
set_option maxRecDepth 20000 in
theorem ggX8_days_X8_in : GoodIn wsX8_days wsX8_in := goodIn_r _ [6] (by decide +kernel) (by decide +kernel)
set_option maxRecDepth 20000 in
theorem gX8_days_X8_in : GoodIn wsX8_days (va_wsS RX8 44 yX8_in wsX8_in) := goodIn_app (goodIn_of _ (by decide +kernel)) ggX8_days_X8_in
set_option maxRecDepth 20000 in
theorem ggX8_days_X8_minds : GoodIn wsX8_days wsX8_minds := goodIn_r _ [10, 2, 11, 12, 13, 5, 14, 54, 55, 56, 57, 58, 59, 60, 61, 62, 63, 64, 65, 66, 67, 68] (by decide +kernel) (by decide +kernel)
set_option maxRecDepth 20000 in
theorem gX8_days_X8_minds : GoodIn wsX8_days (wsV RX8 166 RX8 yX8_minds wsX8_minds) := goodIn_app (goodIn_of _ (by decide +kernel)) ggX8_days_X8_minds
set_option maxRecDepth 20000 in
theorem ggX8_days_X8_passes : GoodIn wsX8_days wsX8_passes := goodIn_r _ [18, 2, 19, 20, 5, 21, 22, 23, 24, 25, 26, 27, 28, 29, 30, 31, 32, 33, 34, 35, 36, 37, 38, 39, 40, 41, 42, 43, 44, 45, 46, 47, 48, 49, 54, 55, 56, 57, 58, 59, 60, 61, 62, 63, 64, 65, 66, 67, 68] (by decide +kernel) (by decide +kernel)
set_option maxRecDepth 20000 in
theorem gX8_days_X8_passes : GoodIn wsX8_days (wsV RX8 169 RX8 yX8_passes wsX8_passes) := goodIn_app (goodIn_of _ (by decide +kernel)) ggX8_days_X8_passes
set_option maxRecDepth 20000 in
theorem ggX8_days_X8_goneOnes : GoodIn wsX8_days wsX8_goneOnes := goodIn_r _ [53, 2, 30, 31, 32, 5, 33, 54, 55, 56, 57, 58, 59, 60, 61, 62, 63, 64, 65, 66, 67, 68] (by decide +kernel) (by decide +kernel)
set_option maxRecDepth 20000 in
theorem gX8_days_X8_goneOnes : GoodIn wsX8_days (wsV RX8 132 RX8 yX8_goneOnes wsX8_goneOnes) := goodIn_app (goodIn_of _ (by decide +kernel)) ggX8_days_X8_goneOnes
theorem dX8_days_0 : decode cX8_days 0 = .ok (.iload_n 1, 1) := by decide +kernel
theorem dX8_days_1 : decode cX8_days 1 = .ok (.i2l, 1) := by decide +kernel
theorem dX8_days_2 : decode cX8_days 2 = .ok (.lconst 1, 1) := by decide +kernel
theorem dX8_days_3 : decode cX8_days 3 = .ok (.ldc2_w 164, 3) := by decide +kernel
theorem dX8_days_6 : decode cX8_days 6 = .ok (.invokestatic 44, 3) := by decide +kernel
theorem dX8_days_9 : decode cX8_days 9 = .ok (.ifCond .ne 5, 3) := by decide +kernel
theorem dX8_days_12 : decode cX8_days 12 = .ok (.iconst (-1), 1) := by decide +kernel
theorem dX8_days_13 : decode cX8_days 13 = .ok (.ireturn, 1) := by decide +kernel
theorem dX8_days_14 : decode cX8_days 14 = .ok (.aload_n 0, 1) := by decide +kernel
theorem dX8_days_15 : decode cX8_days 15 = .ok (.getfield 7, 3) := by decide +kernel
theorem dX8_days_18 : decode cX8_days 18 = .ok (.iconst 2, 1) := by decide +kernel
theorem dX8_days_19 : decode cX8_days 19 = .ok (.iaload, 1) := by decide +kernel
theorem dX8_days_20 : decode cX8_days 20 = .ok (.iload_n 1, 1) := by decide +kernel
theorem dX8_days_21 : decode cX8_days 21 = .ok (.iadd, 1) := by decide +kernel
theorem dX8_days_22 : decode cX8_days 22 = .ok (.sipush 9999, 3) := by decide +kernel
theorem dX8_days_25 : decode cX8_days 25 = .ok (.if_icmp .le 6, 3) := by decide +kernel
theorem dX8_days_28 : decode cX8_days 28 = .ok (.bipush (-3), 2) := by decide +kernel
theorem dX8_days_30 : decode cX8_days 30 = .ok (.ireturn, 1) := by decide +kernel
theorem dX8_days_31 : decode cX8_days 31 = .ok (.iconst 0, 1) := by decide +kernel
theorem dX8_days_32 : decode cX8_days 32 = .ok (.istore_n 2, 1) := by decide +kernel
theorem dX8_days_33 : decode cX8_days 33 = .ok (.iload_n 2, 1) := by decide +kernel
theorem dX8_days_34 : decode cX8_days 34 = .ok (.iload_n 1, 1) := by decide +kernel
theorem dX8_days_35 : decode cX8_days 35 = .ok (.if_icmp .ge 19, 3) := by decide +kernel
theorem dX8_days_38 : decode cX8_days 38 = .ok (.aload_n 0, 1) := by decide +kernel
theorem dX8_days_39 : decode cX8_days 39 = .ok (.invokevirtual 166, 3) := by decide +kernel
theorem dX8_days_42 : decode cX8_days 42 = .ok (.aload_n 0, 1) := by decide +kernel
theorem dX8_days_43 : decode cX8_days 43 = .ok (.iconst 0, 1) := by decide +kernel
theorem dX8_days_44 : decode cX8_days 44 = .ok (.iconst 0, 1) := by decide +kernel
theorem dX8_days_45 : decode cX8_days 45 = .ok (.invokevirtual 169, 3) := by decide +kernel
theorem dX8_days_48 : decode cX8_days 48 = .ok (.iinc 2 1, 3) := by decide +kernel
theorem dX8_days_51 : decode cX8_days 51 = .ok (.goto (-18), 3) := by decide +kernel
theorem dX8_days_54 : decode cX8_days 54 = .ok (.aload_n 0, 1) := by decide +kernel
theorem dX8_days_55 : decode cX8_days 55 = .ok (.iconst 0, 1) := by decide +kernel
theorem dX8_days_56 : decode cX8_days 56 = .ok (.invokevirtual 132, 3) := by decide +kernel
theorem dX8_days_59 : decode cX8_days 59 = .ok (.ireturn, 1) := by decide +kernel
set_option maxRecDepth 20000 in
theorem ggX8_send_X8_isMonk : GoodIn wsX8_send wsX8_isMonk := goodIn_r _ [6, 1, 7, 8, 5, 9, 22, 23, 24, 25, 26, 27, 28, 29, 30, 31, 32, 33, 34, 35, 36] (by decide +kernel) (by decide +kernel)
set_option maxRecDepth 20000 in
theorem gX8_send_X8_isMonk : GoodIn wsX8_send (wsV RX8 78 RX8 yX8_isMonk wsX8_isMonk) := goodIn_app (goodIn_of _ (by decide +kernel)) ggX8_send_X8_isMonk
set_option maxRecDepth 20000 in
theorem ggX8_send_X8_isMark : GoodIn wsX8_send wsX8_isMark := goodIn_r _ [13, 1, 7, 8, 5, 9, 22, 23, 24, 25, 26, 27, 28, 29, 30, 31, 32, 33, 34, 35, 36] (by decide +kernel) (by decide +kernel)
set_option maxRecDepth 20000 in
theorem gX8_send_X8_isMark : GoodIn wsX8_send (wsV RX8 63 RX8 yX8_isMark wsX8_isMark) := goodIn_app (goodIn_of _ (by decide +kernel)) ggX8_send_X8_isMark
set_option maxRecDepth 20000 in
theorem ggX8_send_X8_minds : GoodIn wsX8_send wsX8_minds := goodIn_r _ [17, 1, 18, 19, 20, 5, 21, 22, 23, 24, 25, 26, 27, 28, 29, 30, 31, 32, 33, 34, 35, 36] (by decide +kernel) (by decide +kernel)
set_option maxRecDepth 20000 in
theorem gX8_send_X8_minds : GoodIn wsX8_send (wsV RX8 166 RX8 yX8_minds wsX8_minds) := goodIn_app (goodIn_of _ (by decide +kernel)) ggX8_send_X8_minds
theorem dX8_send_0 : decode cX8_send 0 = .ok (.aload_n 0, 1) := by decide +kernel
theorem dX8_send_1 : decode cX8_send 1 = .ok (.iload_n 1, 1) := by decide +kernel
theorem dX8_send_2 : decode cX8_send 2 = .ok (.invokevirtual 78, 3) := by decide +kernel
theorem dX8_send_5 : decode cX8_send 5 = .ok (.ifCond .eq 17, 3) := by decide +kernel
theorem dX8_send_8 : decode cX8_send 8 = .ok (.iload_n 2, 1) := by decide +kernel
theorem dX8_send_9 : decode cX8_send 9 = .ok (.bipush (-4), 2) := by decide +kernel
theorem dX8_send_11 : decode cX8_send 11 = .ok (.if_icmp .eq 13, 3) := by decide +kernel
theorem dX8_send_14 : decode cX8_send 14 = .ok (.aload_n 0, 1) := by decide +kernel
theorem dX8_send_15 : decode cX8_send 15 = .ok (.iload_n 2, 1) := by decide +kernel
theorem dX8_send_16 : decode cX8_send 16 = .ok (.invokevirtual 63, 3) := by decide +kernel
theorem dX8_send_19 : decode cX8_send 19 = .ok (.ifCond .ne 5, 3) := by decide +kernel
theorem dX8_send_22 : decode cX8_send 22 = .ok (.iconst (-1), 1) := by decide +kernel
theorem dX8_send_23 : decode cX8_send 23 = .ok (.ireturn, 1) := by decide +kernel
theorem dX8_send_24 : decode cX8_send 24 = .ok (.aload_n 0, 1) := by decide +kernel
theorem dX8_send_25 : decode cX8_send 25 = .ok (.getfield 7, 3) := by decide +kernel
theorem dX8_send_28 : decode cX8_send 28 = .ok (.bipush 28, 2) := by decide +kernel
theorem dX8_send_30 : decode cX8_send 30 = .ok (.iload_n 1, 1) := by decide +kernel
theorem dX8_send_31 : decode cX8_send 31 = .ok (.iadd, 1) := by decide +kernel
theorem dX8_send_32 : decode cX8_send 32 = .ok (.iaload, 1) := by decide +kernel
theorem dX8_send_33 : decode cX8_send 33 = .ok (.istore_n 3, 1) := by decide +kernel
theorem dX8_send_34 : decode cX8_send 34 = .ok (.iload_n 3, 1) := by decide +kernel
theorem dX8_send_35 : decode cX8_send 35 = .ok (.iload_n 2, 1) := by decide +kernel
theorem dX8_send_36 : decode cX8_send 36 = .ok (.if_icmp .ne 6, 3) := by decide +kernel
theorem dX8_send_39 : decode cX8_send 39 = .ok (.bipush (-2), 2) := by decide +kernel
theorem dX8_send_41 : decode cX8_send 41 = .ok (.ireturn, 1) := by decide +kernel
theorem dX8_send_42 : decode cX8_send 42 = .ok (.aload_n 0, 1) := by decide +kernel
theorem dX8_send_43 : decode cX8_send 43 = .ok (.invokevirtual 166, 3) := by decide +kernel
theorem dX8_send_46 : decode cX8_send 46 = .ok (.aload_n 0, 1) := by decide +kernel
theorem dX8_send_47 : decode cX8_send 47 = .ok (.getfield 7, 3) := by decide +kernel
theorem dX8_send_50 : decode cX8_send 50 = .ok (.bipush 28, 2) := by decide +kernel
theorem dX8_send_52 : decode cX8_send 52 = .ok (.iload_n 1, 1) := by decide +kernel
theorem dX8_send_53 : decode cX8_send 53 = .ok (.iadd, 1) := by decide +kernel
theorem dX8_send_54 : decode cX8_send 54 = .ok (.iload_n 2, 1) := by decide +kernel
theorem dX8_send_55 : decode cX8_send 55 = .ok (.iastore, 1) := by decide +kernel
theorem dX8_send_56 : decode cX8_send 56 = .ok (.iload_n 3, 1) := by decide +kernel
theorem dX8_send_57 : decode cX8_send 57 = .ok (.ireturn, 1) := by decide +kernel
set_option maxRecDepth 20000 in
theorem ggX8_press_X8_isMonk : GoodIn wsX8_press wsX8_isMonk := goodIn_r _ [6, 7, 8, 9, 5, 10, 51, 52, 53, 54, 55, 56, 57, 58, 59, 60, 61, 62, 63, 64, 65] (by decide +kernel) (by decide +kernel)
set_option maxRecDepth 20000 in
theorem gX8_press_X8_isMonk : GoodIn wsX8_press (wsV RX8 78 RX8 yX8_isMonk wsX8_isMonk) := goodIn_app (goodIn_of _ (by decide +kernel)) ggX8_press_X8_isMonk
set_option maxRecDepth 20000 in
theorem ggX8_press_X8_isMark : GoodIn wsX8_press wsX8_isMark := goodIn_r _ [14, 7, 8, 9, 5, 10, 51, 52, 53, 54, 55, 56, 57, 58, 59, 60, 61, 62, 63, 64, 65] (by decide +kernel) (by decide +kernel)
set_option maxRecDepth 20000 in
theorem gX8_press_X8_isMark : GoodIn wsX8_press (wsV RX8 63 RX8 yX8_isMark wsX8_isMark) := goodIn_app (goodIn_of _ (by decide +kernel)) ggX8_press_X8_isMark
set_option maxRecDepth 20000 in
theorem ggX8_press_X8_in : GoodIn wsX8_press wsX8_in := goodIn_r _ [10] (by decide +kernel) (by decide +kernel)
set_option maxRecDepth 20000 in
theorem gX8_press_X8_in : GoodIn wsX8_press (va_wsS RX8 44 yX8_in wsX8_in) := goodIn_app (goodIn_of _ (by decide +kernel)) ggX8_press_X8_in
set_option maxRecDepth 20000 in
theorem ggX8_press_X8_canRub : GoodIn wsX8_press wsX8_canRub := goodIn_r _ [18, 7, 19, 20, 21, 5, 22, 23, 24, 25, 26, 51, 52, 53, 54, 55, 56, 57, 58, 59, 60, 61, 62, 63, 64, 65] (by decide +kernel) (by decide +kernel)
set_option maxRecDepth 20000 in
theorem gX8_press_X8_canRub : GoodIn wsX8_press (wsV RX8 157 RX8 yX8_canRub wsX8_canRub) := goodIn_app (goodIn_of _ (by decide +kernel)) ggX8_press_X8_canRub
set_option maxRecDepth 20000 in
theorem ggX8_press_X8_minds : GoodIn wsX8_press wsX8_minds := goodIn_r _ [30, 7, 31, 32, 33, 5, 34, 51, 52, 53, 54, 55, 56, 57, 58, 59, 60, 61, 62, 63, 64, 65] (by decide +kernel) (by decide +kernel)
set_option maxRecDepth 20000 in
theorem gX8_press_X8_minds : GoodIn wsX8_press (wsV RX8 166 RX8 yX8_minds wsX8_minds) := goodIn_app (goodIn_of _ (by decide +kernel)) ggX8_press_X8_minds
set_option maxRecDepth 20000 in
theorem ggX8_press_X8_rubs : GoodIn wsX8_press wsX8_rubs := goodIn_r _ [38, 7, 39, 40, 5, 41, 42, 43, 44, 45, 46, 47, 48, 49, 50, 19, 20, 21, 22, 51, 52, 53, 54, 55, 56, 57, 58, 59, 60, 61, 62, 63, 64, 65] (by decide +kernel) (by decide +kernel)
set_option maxRecDepth 20000 in
theorem gX8_press_X8_rubs : GoodIn wsX8_press (wsV RX8 161 RX8 yX8_rubs wsX8_rubs) := goodIn_app (goodIn_of _ (by decide +kernel)) ggX8_press_X8_rubs
theorem dX8_press_0 : decode cX8_press 0 = .ok (.aload_n 0, 1) := by decide +kernel
theorem dX8_press_1 : decode cX8_press 1 = .ok (.iload_n 1, 1) := by decide +kernel
theorem dX8_press_2 : decode cX8_press 2 = .ok (.invokevirtual 78, 3) := by decide +kernel
theorem dX8_press_5 : decode cX8_press 5 = .ok (.ifCond .eq 23, 3) := by decide +kernel
theorem dX8_press_8 : decode cX8_press 8 = .ok (.aload_n 0, 1) := by decide +kernel
theorem dX8_press_9 : decode cX8_press 9 = .ok (.iload_n 2, 1) := by decide +kernel
theorem dX8_press_10 : decode cX8_press 10 = .ok (.invokevirtual 63, 3) := by decide +kernel
theorem dX8_press_13 : decode cX8_press 13 = .ok (.ifCond .eq 15, 3) := by decide +kernel
theorem dX8_press_16 : decode cX8_press 16 = .ok (.iload_n 3, 1) := by decide +kernel
theorem dX8_press_17 : decode cX8_press 17 = .ok (.i2l, 1) := by decide +kernel
theorem dX8_press_18 : decode cX8_press 18 = .ok (.lconst 1, 1) := by decide +kernel
theorem dX8_press_19 : decode cX8_press 19 = .ok (.ldc2_w 48, 3) := by decide +kernel
theorem dX8_press_22 : decode cX8_press 22 = .ok (.invokestatic 44, 3) := by decide +kernel
theorem dX8_press_25 : decode cX8_press 25 = .ok (.ifCond .ne 5, 3) := by decide +kernel
theorem dX8_press_28 : decode cX8_press 28 = .ok (.iconst (-1), 1) := by decide +kernel
theorem dX8_press_29 : decode cX8_press 29 = .ok (.ireturn, 1) := by decide +kernel
theorem dX8_press_30 : decode cX8_press 30 = .ok (.aload_n 0, 1) := by decide +kernel
theorem dX8_press_31 : decode cX8_press 31 = .ok (.iconst 0, 1) := by decide +kernel
theorem dX8_press_32 : decode cX8_press 32 = .ok (.iload_n 1, 1) := by decide +kernel
theorem dX8_press_33 : decode cX8_press 33 = .ok (.iload_n 2, 1) := by decide +kernel
theorem dX8_press_34 : decode cX8_press 34 = .ok (.invokevirtual 157, 3) := by decide +kernel
theorem dX8_press_37 : decode cX8_press 37 = .ok (.ifCond .ne 6, 3) := by decide +kernel
theorem dX8_press_40 : decode cX8_press 40 = .ok (.bipush (-2), 2) := by decide +kernel
theorem dX8_press_42 : decode cX8_press 42 = .ok (.ireturn, 1) := by decide +kernel
theorem dX8_press_43 : decode cX8_press 43 = .ok (.aload_n 0, 1) := by decide +kernel
theorem dX8_press_44 : decode cX8_press 44 = .ok (.invokevirtual 166, 3) := by decide +kernel
theorem dX8_press_47 : decode cX8_press 47 = .ok (.iconst 0, 1) := by decide +kernel
theorem dX8_press_48 : decode cX8_press 48 = .ok (.istore 4, 2) := by decide +kernel
theorem dX8_press_50 : decode cX8_press 50 = .ok (.iload 4, 2) := by decide +kernel
theorem dX8_press_52 : decode cX8_press 52 = .ok (.iload_n 3, 1) := by decide +kernel
theorem dX8_press_53 : decode cX8_press 53 = .ok (.if_icmp .ge 26, 3) := by decide +kernel
theorem dX8_press_56 : decode cX8_press 56 = .ok (.aload_n 0, 1) := by decide +kernel
theorem dX8_press_57 : decode cX8_press 57 = .ok (.iconst 0, 1) := by decide +kernel
theorem dX8_press_58 : decode cX8_press 58 = .ok (.iload_n 1, 1) := by decide +kernel
theorem dX8_press_59 : decode cX8_press 59 = .ok (.iload_n 2, 1) := by decide +kernel
theorem dX8_press_60 : decode cX8_press 60 = .ok (.invokevirtual 157, 3) := by decide +kernel
theorem dX8_press_63 : decode cX8_press 63 = .ok (.ifCond .eq 16, 3) := by decide +kernel
theorem dX8_press_66 : decode cX8_press 66 = .ok (.aload_n 0, 1) := by decide +kernel
theorem dX8_press_67 : decode cX8_press 67 = .ok (.iconst 0, 1) := by decide +kernel
theorem dX8_press_68 : decode cX8_press 68 = .ok (.iload_n 1, 1) := by decide +kernel
theorem dX8_press_69 : decode cX8_press 69 = .ok (.iload_n 2, 1) := by decide +kernel
theorem dX8_press_70 : decode cX8_press 70 = .ok (.invokevirtual 161, 3) := by decide +kernel
theorem dX8_press_73 : decode cX8_press 73 = .ok (.iinc 4 1, 3) := by decide +kernel
theorem dX8_press_76 : decode cX8_press 76 = .ok (.goto (-26), 3) := by decide +kernel
theorem dX8_press_79 : decode cX8_press 79 = .ok (.iload 4, 2) := by decide +kernel
theorem dX8_press_81 : decode cX8_press 81 = .ok (.ireturn, 1) := by decide +kernel
set_option maxRecDepth 20000 in
theorem ggX8_ink_X8_isMark : GoodIn wsX8_ink wsX8_isMark := goodIn_r _ [7, 2, 8, 9, 6, 10, 23, 24, 25, 26, 27, 28, 29, 30, 31, 32, 33, 34, 35, 36, 37] (by decide +kernel) (by decide +kernel)
set_option maxRecDepth 20000 in
theorem gX8_ink_X8_isMark : GoodIn wsX8_ink (wsV RX8 63 RX8 yX8_isMark wsX8_isMark) := goodIn_app (goodIn_of _ (by decide +kernel)) ggX8_ink_X8_isMark
set_option maxRecDepth 20000 in
theorem ggX8_ink_X8_in : GoodIn wsX8_ink wsX8_in := goodIn_r _ [10] (by decide +kernel) (by decide +kernel)
set_option maxRecDepth 20000 in
theorem gX8_ink_X8_in : GoodIn wsX8_ink (va_wsS RX8 44 yX8_in wsX8_in) := goodIn_app (goodIn_of _ (by decide +kernel)) ggX8_ink_X8_in
set_option maxRecDepth 20000 in
theorem ggX8_ink_X8_isTorn : GoodIn wsX8_ink wsX8_isTorn := goodIn_r _ [14, 2, 23, 24, 25, 26, 27, 28, 29, 30, 31, 32, 33, 34, 35, 36, 37] (by decide +kernel) (by decide +kernel)
set_option maxRecDepth 20000 in
theorem gX8_ink_X8_isTorn : GoodIn wsX8_ink (wsV RX8 71 RX8 yX8_isTorn wsX8_isTorn) := goodIn_app (goodIn_of _ (by decide +kernel)) ggX8_ink_X8_isTorn
set_option maxRecDepth 20000 in
theorem ggX8_ink_X8_minds : GoodIn wsX8_ink wsX8_minds := goodIn_r _ [18, 2, 19, 20, 21, 6, 22, 23, 24, 25, 26, 27, 28, 29, 30, 31, 32, 33, 34, 35, 36, 37] (by decide +kernel) (by decide +kernel)
set_option maxRecDepth 20000 in
theorem gX8_ink_X8_minds : GoodIn wsX8_ink (wsV RX8 166 RX8 yX8_minds wsX8_minds) := goodIn_app (goodIn_of _ (by decide +kernel)) ggX8_ink_X8_minds
theorem dX8_ink_0 : decode cX8_ink 0 = .ok (.aload_n 0, 1) := by decide +kernel
theorem dX8_ink_1 : decode cX8_ink 1 = .ok (.iload_n 1, 1) := by decide +kernel
theorem dX8_ink_2 : decode cX8_ink 2 = .ok (.invokevirtual 63, 3) := by decide +kernel
theorem dX8_ink_5 : decode cX8_ink 5 = .ok (.ifCond .eq 15, 3) := by decide +kernel
theorem dX8_ink_8 : decode cX8_ink 8 = .ok (.iload_n 2, 1) := by decide +kernel
theorem dX8_ink_9 : decode cX8_ink 9 = .ok (.i2l, 1) := by decide +kernel
theorem dX8_ink_10 : decode cX8_ink 10 = .ok (.lconst 1, 1) := by decide +kernel
theorem dX8_ink_11 : decode cX8_ink 11 = .ok (.ldc2_w 48, 3) := by decide +kernel
theorem dX8_ink_14 : decode cX8_ink 14 = .ok (.invokestatic 44, 3) := by decide +kernel
theorem dX8_ink_17 : decode cX8_ink 17 = .ok (.ifCond .ne 5, 3) := by decide +kernel
theorem dX8_ink_20 : decode cX8_ink 20 = .ok (.iconst (-1), 1) := by decide +kernel
theorem dX8_ink_21 : decode cX8_ink 21 = .ok (.ireturn, 1) := by decide +kernel
theorem dX8_ink_22 : decode cX8_ink 22 = .ok (.aload_n 0, 1) := by decide +kernel
theorem dX8_ink_23 : decode cX8_ink 23 = .ok (.iconst 0, 1) := by decide +kernel
theorem dX8_ink_24 : decode cX8_ink 24 = .ok (.iload_n 1, 1) := by decide +kernel
theorem dX8_ink_25 : decode cX8_ink 25 = .ok (.invokevirtual 71, 3) := by decide +kernel
theorem dX8_ink_28 : decode cX8_ink 28 = .ok (.ifCond .eq 6, 3) := by decide +kernel
theorem dX8_ink_31 : decode cX8_ink 31 = .ok (.bipush (-2), 2) := by decide +kernel
theorem dX8_ink_33 : decode cX8_ink 33 = .ok (.ireturn, 1) := by decide +kernel
theorem dX8_ink_34 : decode cX8_ink 34 = .ok (.aload_n 0, 1) := by decide +kernel
theorem dX8_ink_35 : decode cX8_ink 35 = .ok (.invokevirtual 166, 3) := by decide +kernel
theorem dX8_ink_38 : decode cX8_ink 38 = .ok (.aload_n 0, 1) := by decide +kernel
theorem dX8_ink_39 : decode cX8_ink 39 = .ok (.getfield 7, 3) := by decide +kernel
theorem dX8_ink_42 : decode cX8_ink 42 = .ok (.iconst 5, 1) := by decide +kernel
theorem dX8_ink_43 : decode cX8_ink 43 = .ok (.iload_n 1, 1) := by decide +kernel
theorem dX8_ink_44 : decode cX8_ink 44 = .ok (.iadd, 1) := by decide +kernel
theorem dX8_ink_45 : decode cX8_ink 45 = .ok (.aload_n 0, 1) := by decide +kernel
theorem dX8_ink_46 : decode cX8_ink 46 = .ok (.getfield 7, 3) := by decide +kernel
theorem dX8_ink_49 : decode cX8_ink 49 = .ok (.iconst 5, 1) := by decide +kernel
theorem dX8_ink_50 : decode cX8_ink 50 = .ok (.iload_n 1, 1) := by decide +kernel
theorem dX8_ink_51 : decode cX8_ink 51 = .ok (.iadd, 1) := by decide +kernel
theorem dX8_ink_52 : decode cX8_ink 52 = .ok (.iaload, 1) := by decide +kernel
theorem dX8_ink_53 : decode cX8_ink 53 = .ok (.iload_n 2, 1) := by decide +kernel
theorem dX8_ink_54 : decode cX8_ink 54 = .ok (.iadd, 1) := by decide +kernel
theorem dX8_ink_55 : decode cX8_ink 55 = .ok (.bipush 60, 2) := by decide +kernel
theorem dX8_ink_57 : decode cX8_ink 57 = .ok (.if_icmp .le 8, 3) := by decide +kernel
theorem dX8_ink_60 : decode cX8_ink 60 = .ok (.bipush 60, 2) := by decide +kernel
theorem dX8_ink_62 : decode cX8_ink 62 = .ok (.goto 13, 3) := by decide +kernel
theorem dX8_ink_65 : decode cX8_ink 65 = .ok (.aload_n 0, 1) := by decide +kernel
theorem dX8_ink_66 : decode cX8_ink 66 = .ok (.getfield 7, 3) := by decide +kernel
theorem dX8_ink_69 : decode cX8_ink 69 = .ok (.iconst 5, 1) := by decide +kernel
theorem dX8_ink_70 : decode cX8_ink 70 = .ok (.iload_n 1, 1) := by decide +kernel
theorem dX8_ink_71 : decode cX8_ink 71 = .ok (.iadd, 1) := by decide +kernel
theorem dX8_ink_72 : decode cX8_ink 72 = .ok (.iaload, 1) := by decide +kernel
theorem dX8_ink_73 : decode cX8_ink 73 = .ok (.iload_n 2, 1) := by decide +kernel
theorem dX8_ink_74 : decode cX8_ink 74 = .ok (.iadd, 1) := by decide +kernel
theorem dX8_ink_75 : decode cX8_ink 75 = .ok (.iastore, 1) := by decide +kernel
theorem dX8_ink_76 : decode cX8_ink 76 = .ok (.aload_n 0, 1) := by decide +kernel
theorem dX8_ink_77 : decode cX8_ink 77 = .ok (.getfield 7, 3) := by decide +kernel
theorem dX8_ink_80 : decode cX8_ink 80 = .ok (.iconst 5, 1) := by decide +kernel
theorem dX8_ink_81 : decode cX8_ink 81 = .ok (.iload_n 1, 1) := by decide +kernel
theorem dX8_ink_82 : decode cX8_ink 82 = .ok (.iadd, 1) := by decide +kernel
theorem dX8_ink_83 : decode cX8_ink 83 = .ok (.iaload, 1) := by decide +kernel
theorem dX8_ink_84 : decode cX8_ink 84 = .ok (.ireturn, 1) := by decide +kernel
set_option maxRecDepth 20000 in
theorem ggX8_drift_X8_in : GoodIn wsX8_drift wsX8_in := goodIn_r _ [10] (by decide +kernel) (by decide +kernel)
set_option maxRecDepth 20000 in
theorem gX8_drift_X8_in : GoodIn wsX8_drift (va_wsS RX8 44 yX8_in wsX8_in) := goodIn_app (goodIn_of _ (by decide +kernel)) ggX8_drift_X8_in
set_option maxRecDepth 20000 in
theorem ggX8_drift_X8_minds : GoodIn wsX8_drift wsX8_minds := goodIn_r _ [14, 2, 15, 16, 17, 9, 18, 58, 59, 60, 61, 62, 63, 64, 65, 66, 67, 68, 69, 70, 71, 72] (by decide +kernel) (by decide +kernel)
set_option maxRecDepth 20000 in
theorem gX8_drift_X8_minds : GoodIn wsX8_drift (wsV RX8 166 RX8 yX8_minds wsX8_minds) := goodIn_app (goodIn_of _ (by decide +kernel)) ggX8_drift_X8_minds
set_option maxRecDepth 20000 in
theorem ggX8_drift_X8_passes : GoodIn wsX8_drift wsX8_passes := goodIn_r _ [22, 2, 23, 24, 9, 25, 26, 27, 28, 29, 30, 31, 32, 33, 34, 35, 36, 37, 38, 39, 40, 41, 42, 43, 44, 45, 46, 47, 48, 49, 50, 51, 52, 53, 58, 59, 60, 61, 62, 63, 64, 65, 66, 67, 68, 69, 70, 71, 72] (by decide +kernel) (by decide +kernel)
set_option maxRecDepth 20000 in
theorem gX8_drift_X8_passes : GoodIn wsX8_drift (wsV RX8 169 RX8 yX8_passes wsX8_passes) := goodIn_app (goodIn_of _ (by decide +kernel)) ggX8_drift_X8_passes
set_option maxRecDepth 20000 in
theorem ggX8_drift_X8_goneOnes : GoodIn wsX8_drift wsX8_goneOnes := goodIn_r _ [57, 2, 34, 35, 36, 9, 37, 58, 59, 60, 61, 62, 63, 64, 65, 66, 67, 68, 69, 70, 71, 72] (by decide +kernel) (by decide +kernel)
set_option maxRecDepth 20000 in
theorem gX8_drift_X8_goneOnes : GoodIn wsX8_drift (wsV RX8 132 RX8 yX8_goneOnes wsX8_goneOnes) := goodIn_app (goodIn_of _ (by decide +kernel)) ggX8_drift_X8_goneOnes
theorem dX8_drift_0 : decode cX8_drift 0 = .ok (.iload_n 1, 1) := by decide +kernel
theorem dX8_drift_1 : decode cX8_drift 1 = .ok (.i2l, 1) := by decide +kernel
theorem dX8_drift_2 : decode cX8_drift 2 = .ok (.lconst 1, 1) := by decide +kernel
theorem dX8_drift_3 : decode cX8_drift 3 = .ok (.ldc2_w 164, 3) := by decide +kernel
theorem dX8_drift_6 : decode cX8_drift 6 = .ok (.invokestatic 44, 3) := by decide +kernel
theorem dX8_drift_9 : decode cX8_drift 9 = .ok (.ifCond .ne 5, 3) := by decide +kernel
theorem dX8_drift_12 : decode cX8_drift 12 = .ok (.iconst (-1), 1) := by decide +kernel
theorem dX8_drift_13 : decode cX8_drift 13 = .ok (.ireturn, 1) := by decide +kernel
theorem dX8_drift_14 : decode cX8_drift 14 = .ok (.aload_n 0, 1) := by decide +kernel
theorem dX8_drift_15 : decode cX8_drift 15 = .ok (.getfield 7, 3) := by decide +kernel
theorem dX8_drift_18 : decode cX8_drift 18 = .ok (.iconst 2, 1) := by decide +kernel
theorem dX8_drift_19 : decode cX8_drift 19 = .ok (.iaload, 1) := by decide +kernel
theorem dX8_drift_20 : decode cX8_drift 20 = .ok (.iload_n 1, 1) := by decide +kernel
theorem dX8_drift_21 : decode cX8_drift 21 = .ok (.iadd, 1) := by decide +kernel
theorem dX8_drift_22 : decode cX8_drift 22 = .ok (.sipush 9999, 3) := by decide +kernel
theorem dX8_drift_25 : decode cX8_drift 25 = .ok (.if_icmp .le 6, 3) := by decide +kernel
theorem dX8_drift_28 : decode cX8_drift 28 = .ok (.bipush (-3), 2) := by decide +kernel
theorem dX8_drift_30 : decode cX8_drift 30 = .ok (.ireturn, 1) := by decide +kernel
theorem dX8_drift_31 : decode cX8_drift 31 = .ok (.iconst 0, 1) := by decide +kernel
theorem dX8_drift_32 : decode cX8_drift 32 = .ok (.istore_n 2, 1) := by decide +kernel
theorem dX8_drift_33 : decode cX8_drift 33 = .ok (.iload_n 2, 1) := by decide +kernel
theorem dX8_drift_34 : decode cX8_drift 34 = .ok (.iload_n 1, 1) := by decide +kernel
theorem dX8_drift_35 : decode cX8_drift 35 = .ok (.if_icmp .ge 104, 3) := by decide +kernel
theorem dX8_drift_38 : decode cX8_drift 38 = .ok (.aload_n 0, 1) := by decide +kernel
theorem dX8_drift_39 : decode cX8_drift 39 = .ok (.invokevirtual 166, 3) := by decide +kernel
theorem dX8_drift_42 : decode cX8_drift 42 = .ok (.aload_n 0, 1) := by decide +kernel
theorem dX8_drift_43 : decode cX8_drift 43 = .ok (.getfield 7, 3) := by decide +kernel
theorem dX8_drift_46 : decode cX8_drift 46 = .ok (.iconst 3, 1) := by decide +kernel
theorem dX8_drift_47 : decode cX8_drift 47 = .ok (.aload_n 0, 1) := by decide +kernel
theorem dX8_drift_48 : decode cX8_drift 48 = .ok (.getfield 7, 3) := by decide +kernel
theorem dX8_drift_51 : decode cX8_drift 51 = .ok (.iconst 3, 1) := by decide +kernel
theorem dX8_drift_52 : decode cX8_drift 52 = .ok (.iaload, 1) := by decide +kernel
theorem dX8_drift_53 : decode cX8_drift 53 = .ok (.i2l, 1) := by decide +kernel
theorem dX8_drift_54 : decode cX8_drift 54 = .ok (.ldc2_w 173, 3) := by decide +kernel
theorem dX8_drift_57 : decode cX8_drift 57 = .ok (.lmul, 1) := by decide +kernel
theorem dX8_drift_58 : decode cX8_drift 58 = .ok (.ldc2_w 175, 3) := by decide +kernel
theorem dX8_drift_61 : decode cX8_drift 61 = .ok (.ladd, 1) := by decide +kernel
theorem dX8_drift_62 : decode cX8_drift 62 = .ok (.ldc2_w 177, 3) := by decide +kernel
theorem dX8_drift_65 : decode cX8_drift 65 = .ok (.lrem, 1) := by decide +kernel
theorem dX8_drift_66 : decode cX8_drift 66 = .ok (.l2i, 1) := by decide +kernel
theorem dX8_drift_67 : decode cX8_drift 67 = .ok (.iastore, 1) := by decide +kernel
theorem dX8_drift_68 : decode cX8_drift 68 = .ok (.aload_n 0, 1) := by decide +kernel
theorem dX8_drift_69 : decode cX8_drift 69 = .ok (.getfield 7, 3) := by decide +kernel
theorem dX8_drift_72 : decode cX8_drift 72 = .ok (.iconst 1, 1) := by decide +kernel
theorem dX8_drift_73 : decode cX8_drift 73 = .ok (.iaload, 1) := by decide +kernel
theorem dX8_drift_74 : decode cX8_drift 74 = .ok (.ifCond .le 53, 3) := by decide +kernel
theorem dX8_drift_77 : decode cX8_drift 77 = .ok (.aload_n 0, 1) := by decide +kernel
theorem dX8_drift_78 : decode cX8_drift 78 = .ok (.getfield 7, 3) := by decide +kernel
theorem dX8_drift_81 : decode cX8_drift 81 = .ok (.iconst 0, 1) := by decide +kernel
theorem dX8_drift_82 : decode cX8_drift 82 = .ok (.iaload, 1) := by decide +kernel
theorem dX8_drift_83 : decode cX8_drift 83 = .ok (.ifCond .le 44, 3) := by decide +kernel
theorem dX8_drift_86 : decode cX8_drift 86 = .ok (.aload_n 0, 1) := by decide +kernel
theorem dX8_drift_87 : decode cX8_drift 87 = .ok (.getfield 7, 3) := by decide +kernel
theorem dX8_drift_90 : decode cX8_drift 90 = .ok (.bipush 28, 2) := by decide +kernel
theorem dX8_drift_92 : decode cX8_drift 92 = .ok (.aload_n 0, 1) := by decide +kernel
theorem dX8_drift_93 : decode cX8_drift 93 = .ok (.getfield 7, 3) := by decide +kernel
theorem dX8_drift_96 : decode cX8_drift 96 = .ok (.iconst 3, 1) := by decide +kernel
theorem dX8_drift_97 : decode cX8_drift 97 = .ok (.iaload, 1) := by decide +kernel
theorem dX8_drift_98 : decode cX8_drift 98 = .ok (.ldc 179, 2) := by decide +kernel
theorem dX8_drift_100 : decode cX8_drift 100 = .ok (.idiv, 1) := by decide +kernel
theorem dX8_drift_101 : decode cX8_drift 101 = .ok (.aload_n 0, 1) := by decide +kernel
theorem dX8_drift_102 : decode cX8_drift 102 = .ok (.getfield 7, 3) := by decide +kernel
theorem dX8_drift_105 : decode cX8_drift 105 = .ok (.iconst 1, 1) := by decide +kernel
theorem dX8_drift_106 : decode cX8_drift 106 = .ok (.iaload, 1) := by decide +kernel
theorem dX8_drift_107 : decode cX8_drift 107 = .ok (.irem, 1) := by decide +kernel
theorem dX8_drift_108 : decode cX8_drift 108 = .ok (.iadd, 1) := by decide +kernel
theorem dX8_drift_109 : decode cX8_drift 109 = .ok (.aload_n 0, 1) := by decide +kernel
theorem dX8_drift_110 : decode cX8_drift 110 = .ok (.getfield 7, 3) := by decide +kernel
theorem dX8_drift_113 : decode cX8_drift 113 = .ok (.iconst 3, 1) := by decide +kernel
theorem dX8_drift_114 : decode cX8_drift 114 = .ok (.iaload, 1) := by decide +kernel
theorem dX8_drift_115 : decode cX8_drift 115 = .ok (.sipush 128, 3) := by decide +kernel
theorem dX8_drift_118 : decode cX8_drift 118 = .ok (.idiv, 1) := by decide +kernel
theorem dX8_drift_119 : decode cX8_drift 119 = .ok (.aload_n 0, 1) := by decide +kernel
theorem dX8_drift_120 : decode cX8_drift 120 = .ok (.getfield 7, 3) := by decide +kernel
theorem dX8_drift_123 : decode cX8_drift 123 = .ok (.iconst 0, 1) := by decide +kernel
theorem dX8_drift_124 : decode cX8_drift 124 = .ok (.iaload, 1) := by decide +kernel
theorem dX8_drift_125 : decode cX8_drift 125 = .ok (.irem, 1) := by decide +kernel
theorem dX8_drift_126 : decode cX8_drift 126 = .ok (.iastore, 1) := by decide +kernel
theorem dX8_drift_127 : decode cX8_drift 127 = .ok (.aload_n 0, 1) := by decide +kernel
theorem dX8_drift_128 : decode cX8_drift 128 = .ok (.iconst 0, 1) := by decide +kernel
theorem dX8_drift_129 : decode cX8_drift 129 = .ok (.iconst 0, 1) := by decide +kernel
theorem dX8_drift_130 : decode cX8_drift 130 = .ok (.invokevirtual 169, 3) := by decide +kernel
theorem dX8_drift_133 : decode cX8_drift 133 = .ok (.iinc 2 1, 3) := by decide +kernel
theorem dX8_drift_136 : decode cX8_drift 136 = .ok (.goto (-103), 3) := by decide +kernel
theorem dX8_drift_139 : decode cX8_drift 139 = .ok (.aload_n 0, 1) := by decide +kernel
theorem dX8_drift_140 : decode cX8_drift 140 = .ok (.iconst 0, 1) := by decide +kernel
theorem dX8_drift_141 : decode cX8_drift 141 = .ok (.invokevirtual 132, 3) := by decide +kernel
theorem dX8_drift_144 : decode cX8_drift 144 = .ok (.ireturn, 1) := by decide +kernel
set_option maxRecDepth 20000 in
theorem ggX8_undo_X8_bring : GoodIn wsX8_undo wsX8_bring := goodIn_r _ [6, 1, 7, 8, 9, 10, 11, 12, 13, 14, 15, 16, 17, 18, 19, 20, 21] (by decide +kernel) (by decide +kernel)
set_option maxRecDepth 20000 in
theorem gX8_undo_X8_bring : GoodIn wsX8_undo (wsV RX8 128 RX8 yX8_bring wsX8_bring) := goodIn_app (goodIn_of _ (by decide +kernel)) ggX8_undo_X8_bring
theorem dX8_undo_0 : decode cX8_undo 0 = .ok (.aload_n 0, 1) := by decide +kernel
theorem dX8_undo_1 : decode cX8_undo 1 = .ok (.getfield 7, 3) := by decide +kernel
theorem dX8_undo_4 : decode cX8_undo 4 = .ok (.bipush 44, 2) := by decide +kernel
theorem dX8_undo_6 : decode cX8_undo 6 = .ok (.iaload, 1) := by decide +kernel
theorem dX8_undo_7 : decode cX8_undo 7 = .ok (.ifCond .ne 6, 3) := by decide +kernel
theorem dX8_undo_10 : decode cX8_undo 10 = .ok (.bipush (-4), 2) := by decide +kernel
theorem dX8_undo_12 : decode cX8_undo 12 = .ok (.ireturn, 1) := by decide +kernel
theorem dX8_undo_13 : decode cX8_undo 13 = .ok (.aload_n 0, 1) := by decide +kernel
theorem dX8_undo_14 : decode cX8_undo 14 = .ok (.getfield 7, 3) := by decide +kernel
theorem dX8_undo_17 : decode cX8_undo 17 = .ok (.bipush 44, 2) := by decide +kernel
theorem dX8_undo_19 : decode cX8_undo 19 = .ok (.dup2, 1) := by decide +kernel
theorem dX8_undo_20 : decode cX8_undo 20 = .ok (.iaload, 1) := by decide +kernel
theorem dX8_undo_21 : decode cX8_undo 21 = .ok (.iconst 1, 1) := by decide +kernel
theorem dX8_undo_22 : decode cX8_undo 22 = .ok (.isub, 1) := by decide +kernel
theorem dX8_undo_23 : decode cX8_undo 23 = .ok (.iastore, 1) := by decide +kernel
theorem dX8_undo_24 : decode cX8_undo 24 = .ok (.aload_n 0, 1) := by decide +kernel
theorem dX8_undo_25 : decode cX8_undo 25 = .ok (.bipush 45, 2) := by decide +kernel
theorem dX8_undo_27 : decode cX8_undo 27 = .ok (.bipush 31, 2) := by decide +kernel
theorem dX8_undo_29 : decode cX8_undo 29 = .ok (.aload_n 0, 1) := by decide +kernel
theorem dX8_undo_30 : decode cX8_undo 30 = .ok (.getfield 7, 3) := by decide +kernel
theorem dX8_undo_33 : decode cX8_undo 33 = .ok (.bipush 44, 2) := by decide +kernel
theorem dX8_undo_35 : decode cX8_undo 35 = .ok (.iaload, 1) := by decide +kernel
theorem dX8_undo_36 : decode cX8_undo 36 = .ok (.imul, 1) := by decide +kernel
theorem dX8_undo_37 : decode cX8_undo 37 = .ok (.iadd, 1) := by decide +kernel
theorem dX8_undo_38 : decode cX8_undo 38 = .ok (.iconst 2, 1) := by decide +kernel
theorem dX8_undo_39 : decode cX8_undo 39 = .ok (.bipush 31, 2) := by decide +kernel
theorem dX8_undo_41 : decode cX8_undo 41 = .ok (.invokevirtual 128, 3) := by decide +kernel
theorem dX8_undo_44 : decode cX8_undo 44 = .ok (.aload_n 0, 1) := by decide +kernel
theorem dX8_undo_45 : decode cX8_undo 45 = .ok (.getfield 7, 3) := by decide +kernel
theorem dX8_undo_48 : decode cX8_undo 48 = .ok (.bipush 44, 2) := by decide +kernel
theorem dX8_undo_50 : decode cX8_undo 50 = .ok (.iaload, 1) := by decide +kernel
theorem dX8_undo_51 : decode cX8_undo 51 = .ok (.ireturn, 1) := by decide +kernel
theorem dX8_seed_0 : decode cX8_seed 0 = .ok (.iload_n 1, 1) := by decide +kernel
theorem dX8_seed_1 : decode cX8_seed 1 = .ok (.ifCond .ge 5, 3) := by decide +kernel
theorem dX8_seed_4 : decode cX8_seed 4 = .ok (.iconst (-1), 1) := by decide +kernel
theorem dX8_seed_5 : decode cX8_seed 5 = .ok (.ireturn, 1) := by decide +kernel
theorem dX8_seed_6 : decode cX8_seed 6 = .ok (.aload_n 0, 1) := by decide +kernel
theorem dX8_seed_7 : decode cX8_seed 7 = .ok (.getfield 7, 3) := by decide +kernel
theorem dX8_seed_10 : decode cX8_seed 10 = .ok (.iconst 3, 1) := by decide +kernel
theorem dX8_seed_11 : decode cX8_seed 11 = .ok (.iaload, 1) := by decide +kernel
theorem dX8_seed_12 : decode cX8_seed 12 = .ok (.istore_n 2, 1) := by decide +kernel
theorem dX8_seed_13 : decode cX8_seed 13 = .ok (.aload_n 0, 1) := by decide +kernel
theorem dX8_seed_14 : decode cX8_seed 14 = .ok (.getfield 7, 3) := by decide +kernel
theorem dX8_seed_17 : decode cX8_seed 17 = .ok (.iconst 3, 1) := by decide +kernel
theorem dX8_seed_18 : decode cX8_seed 18 = .ok (.iload_n 1, 1) := by decide +kernel
theorem dX8_seed_19 : decode cX8_seed 19 = .ok (.iastore, 1) := by decide +kernel
theorem dX8_seed_20 : decode cX8_seed 20 = .ok (.iload_n 2, 1) := by decide +kernel
theorem dX8_seed_21 : decode cX8_seed 21 = .ok (.ireturn, 1) := by decide +kernel
set_option maxRecDepth 20000 in
theorem ggX8_tries_X8_bring : GoodIn wsX8_tries wsX8_bring := goodIn_r _ [5, 6, 7, 8, 9, 10, 11, 12, 13, 14, 15, 16, 17, 18, 19, 20, 21] (by decide +kernel) (by decide +kernel)
set_option maxRecDepth 20000 in
theorem gX8_tries_X8_bring : GoodIn wsX8_tries (wsV RX8 128 RX8 yX8_bring wsX8_bring) := goodIn_app (goodIn_of _ (by decide +kernel)) ggX8_tries_X8_bring
theorem dX8_tries_0 : decode cX8_tries 0 = .ok (.aload_n 0, 1) := by decide +kernel
theorem dX8_tries_1 : decode cX8_tries 1 = .ok (.iconst 0, 1) := by decide +kernel
theorem dX8_tries_2 : decode cX8_tries 2 = .ok (.sipush 586, 3) := by decide +kernel
theorem dX8_tries_5 : decode cX8_tries 5 = .ok (.bipush 44, 2) := by decide +kernel
theorem dX8_tries_7 : decode cX8_tries 7 = .ok (.invokevirtual 128, 3) := by decide +kernel
theorem dX8_tries_10 : decode cX8_tries 10 = .ok (.return_, 1) := by decide +kernel
set_option maxRecDepth 20000 in
theorem ggX8_goesOn_X8_passes : GoodIn wsX8_goesOn wsX8_passes := goodIn_r _ [5, 6, 7, 8, 4, 9, 10, 11, 12, 13, 14, 15, 16, 17, 18, 19, 20, 21, 22, 23, 24, 25, 26, 27, 28, 29, 30, 31, 32, 33, 34, 35, 36, 37, 38, 39, 40, 41, 42, 43, 44, 45, 46, 47, 48, 49, 50, 51, 52] (by decide +kernel) (by decide +kernel)
set_option maxRecDepth 20000 in
theorem gX8_goesOn_X8_passes : GoodIn wsX8_goesOn (wsV RX8 169 RX8 yX8_passes wsX8_passes) := goodIn_app (goodIn_of _ (by decide +kernel)) ggX8_goesOn_X8_passes
theorem dX8_goesOn_0 : decode cX8_goesOn 0 = .ok (.iconst 0, 1) := by decide +kernel
theorem dX8_goesOn_1 : decode cX8_goesOn 1 = .ok (.istore_n 2, 1) := by decide +kernel
theorem dX8_goesOn_2 : decode cX8_goesOn 2 = .ok (.iload_n 2, 1) := by decide +kernel
theorem dX8_goesOn_3 : decode cX8_goesOn 3 = .ok (.iload_n 1, 1) := by decide +kernel
theorem dX8_goesOn_4 : decode cX8_goesOn 4 = .ok (.if_icmp .ge 17, 3) := by decide +kernel
theorem dX8_goesOn_7 : decode cX8_goesOn 7 = .ok (.aload_n 0, 1) := by decide +kernel
theorem dX8_goesOn_8 : decode cX8_goesOn 8 = .ok (.sipush 586, 3) := by decide +kernel
theorem dX8_goesOn_11 : decode cX8_goesOn 11 = .ok (.iconst 0, 1) := by decide +kernel
theorem dX8_goesOn_12 : decode cX8_goesOn 12 = .ok (.invokevirtual 169, 3) := by decide +kernel
theorem dX8_goesOn_15 : decode cX8_goesOn 15 = .ok (.iinc 2 1, 3) := by decide +kernel
theorem dX8_goesOn_18 : decode cX8_goesOn 18 = .ok (.goto (-16), 3) := by decide +kernel
theorem dX8_goesOn_21 : decode cX8_goesOn 21 = .ok (.return_, 1) := by decide +kernel
set_option maxRecDepth 20000 in
theorem ggX8_dark_X8_isMark : GoodIn wsX8_dark wsX8_isMark := goodIn_r _ [7, 2, 8, 9, 6, 10, 58, 59, 60, 61, 62, 63, 64, 65, 66, 67, 68, 69, 70, 71, 72] (by decide +kernel) (by decide +kernel)
set_option maxRecDepth 20000 in
theorem gX8_dark_X8_isMark : GoodIn wsX8_dark (wsV RX8 63 RX8 yX8_isMark wsX8_isMark) := goodIn_app (goodIn_of _ (by decide +kernel)) ggX8_dark_X8_isMark
set_option maxRecDepth 20000 in
theorem ggX8_dark_X8_in : GoodIn wsX8_dark wsX8_in := goodIn_r _ [10] (by decide +kernel) (by decide +kernel)
set_option maxRecDepth 20000 in
theorem gX8_dark_X8_in : GoodIn wsX8_dark (va_wsS RX8 44 yX8_in wsX8_in) := goodIn_app (goodIn_of _ (by decide +kernel)) ggX8_dark_X8_in
set_option maxRecDepth 20000 in
theorem ggX8_dark_X8_tries : GoodIn wsX8_dark wsX8_tries := goodIn_r _ [14, 15, 16, 17, 6, 18, 2, 58, 59, 60, 61, 62, 63, 64, 65, 66, 67, 68, 69, 70, 71, 72] (by decide +kernel) (by decide +kernel)
set_option maxRecDepth 20000 in
theorem gX8_dark_X8_tries : GoodIn wsX8_dark (wsV RX8 180 RX8 yX8_tries wsX8_tries) := goodIn_app (goodIn_of _ (by decide +kernel)) ggX8_dark_X8_tries
set_option maxRecDepth 20000 in
theorem ggX8_dark_X8_goesOn : GoodIn wsX8_dark wsX8_goesOn := goodIn_r _ [22, 23, 24, 25, 6, 26, 2, 27, 28, 29, 30, 31, 32, 33, 34, 35, 36, 37, 38, 39, 40, 41, 42, 43, 44, 45, 46, 47, 48, 49, 50, 51, 52, 53, 54, 55, 56, 57, 58, 59, 60, 61, 62, 63, 64, 65, 66, 67, 68, 69, 70, 71, 72] (by decide +kernel) (by decide +kernel)
set_option maxRecDepth 20000 in
theorem gX8_dark_X8_goesOn : GoodIn wsX8_dark (wsV RX8 183 RX8 yX8_goesOn wsX8_goesOn) := goodIn_app (goodIn_of _ (by decide +kernel)) ggX8_dark_X8_goesOn
theorem dX8_dark_0 : decode cX8_dark 0 = .ok (.aload_n 0, 1) := by decide +kernel
theorem dX8_dark_1 : decode cX8_dark 1 = .ok (.iload_n 1, 1) := by decide +kernel
theorem dX8_dark_2 : decode cX8_dark 2 = .ok (.invokevirtual 63, 3) := by decide +kernel
theorem dX8_dark_5 : decode cX8_dark 5 = .ok (.ifCond .eq 15, 3) := by decide +kernel
theorem dX8_dark_8 : decode cX8_dark 8 = .ok (.iload_n 2, 1) := by decide +kernel
theorem dX8_dark_9 : decode cX8_dark 9 = .ok (.i2l, 1) := by decide +kernel
theorem dX8_dark_10 : decode cX8_dark 10 = .ok (.lconst 0, 1) := by decide +kernel
theorem dX8_dark_11 : decode cX8_dark 11 = .ok (.ldc2_w 48, 3) := by decide +kernel
theorem dX8_dark_14 : decode cX8_dark 14 = .ok (.invokestatic 44, 3) := by decide +kernel
theorem dX8_dark_17 : decode cX8_dark 17 = .ok (.ifCond .ne 5, 3) := by decide +kernel
theorem dX8_dark_20 : decode cX8_dark 20 = .ok (.iconst (-1), 1) := by decide +kernel
theorem dX8_dark_21 : decode cX8_dark 21 = .ok (.ireturn, 1) := by decide +kernel
theorem dX8_dark_22 : decode cX8_dark 22 = .ok (.aload_n 0, 1) := by decide +kernel
theorem dX8_dark_23 : decode cX8_dark 23 = .ok (.invokevirtual 180, 3) := by decide +kernel
theorem dX8_dark_26 : decode cX8_dark 26 = .ok (.aload_n 0, 1) := by decide +kernel
theorem dX8_dark_27 : decode cX8_dark 27 = .ok (.iload_n 2, 1) := by decide +kernel
theorem dX8_dark_28 : decode cX8_dark 28 = .ok (.invokevirtual 183, 3) := by decide +kernel
theorem dX8_dark_31 : decode cX8_dark 31 = .ok (.aload_n 0, 1) := by decide +kernel
theorem dX8_dark_32 : decode cX8_dark 32 = .ok (.getfield 7, 3) := by decide +kernel
theorem dX8_dark_35 : decode cX8_dark 35 = .ok (.sipush 591, 3) := by decide +kernel
theorem dX8_dark_38 : decode cX8_dark 38 = .ok (.iload_n 1, 1) := by decide +kernel
theorem dX8_dark_39 : decode cX8_dark 39 = .ok (.iadd, 1) := by decide +kernel
theorem dX8_dark_40 : decode cX8_dark 40 = .ok (.iaload, 1) := by decide +kernel
theorem dX8_dark_41 : decode cX8_dark 41 = .ok (.ireturn, 1) := by decide +kernel
set_option maxRecDepth 20000 in
theorem ggX8_size_X8_isMonk : GoodIn wsX8_size wsX8_isMonk := goodIn_r _ [7, 2, 8, 9, 6, 10, 58, 59, 60, 61, 62, 63, 64, 65, 66, 67, 68, 69, 70, 71, 72] (by decide +kernel) (by decide +kernel)
set_option maxRecDepth 20000 in
theorem gX8_size_X8_isMonk : GoodIn wsX8_size (wsV RX8 78 RX8 yX8_isMonk wsX8_isMonk) := goodIn_app (goodIn_of _ (by decide +kernel)) ggX8_size_X8_isMonk
set_option maxRecDepth 20000 in
theorem ggX8_size_X8_in : GoodIn wsX8_size wsX8_in := goodIn_r _ [10] (by decide +kernel) (by decide +kernel)
set_option maxRecDepth 20000 in
theorem gX8_size_X8_in : GoodIn wsX8_size (va_wsS RX8 44 yX8_in wsX8_in) := goodIn_app (goodIn_of _ (by decide +kernel)) ggX8_size_X8_in
set_option maxRecDepth 20000 in
theorem ggX8_size_X8_tries : GoodIn wsX8_size wsX8_tries := goodIn_r _ [14, 15, 16, 17, 6, 18, 2, 58, 59, 60, 61, 62, 63, 64, 65, 66, 67, 68, 69, 70, 71, 72] (by decide +kernel) (by decide +kernel)
set_option maxRecDepth 20000 in
theorem gX8_size_X8_tries : GoodIn wsX8_size (wsV RX8 180 RX8 yX8_tries wsX8_tries) := goodIn_app (goodIn_of _ (by decide +kernel)) ggX8_size_X8_tries
set_option maxRecDepth 20000 in
theorem ggX8_size_X8_goesOn : GoodIn wsX8_size wsX8_goesOn := goodIn_r _ [22, 23, 24, 25, 6, 26, 2, 27, 28, 29, 30, 31, 32, 33, 34, 35, 36, 37, 38, 39, 40, 41, 42, 43, 44, 45, 46, 47, 48, 49, 50, 51, 52, 53, 54, 55, 56, 57, 58, 59, 60, 61, 62, 63, 64, 65, 66, 67, 68, 69, 70, 71, 72] (by decide +kernel) (by decide +kernel)
set_option maxRecDepth 20000 in
theorem gX8_size_X8_goesOn : GoodIn wsX8_size (wsV RX8 183 RX8 yX8_goesOn wsX8_goesOn) := goodIn_app (goodIn_of _ (by decide +kernel)) ggX8_size_X8_goesOn
theorem dX8_size_0 : decode cX8_size 0 = .ok (.aload_n 0, 1) := by decide +kernel
theorem dX8_size_1 : decode cX8_size 1 = .ok (.iload_n 1, 1) := by decide +kernel
theorem dX8_size_2 : decode cX8_size 2 = .ok (.invokevirtual 78, 3) := by decide +kernel
theorem dX8_size_5 : decode cX8_size 5 = .ok (.ifCond .eq 15, 3) := by decide +kernel
theorem dX8_size_8 : decode cX8_size 8 = .ok (.iload_n 2, 1) := by decide +kernel
theorem dX8_size_9 : decode cX8_size 9 = .ok (.i2l, 1) := by decide +kernel
theorem dX8_size_10 : decode cX8_size 10 = .ok (.lconst 0, 1) := by decide +kernel
theorem dX8_size_11 : decode cX8_size 11 = .ok (.ldc2_w 48, 3) := by decide +kernel
theorem dX8_size_14 : decode cX8_size 14 = .ok (.invokestatic 44, 3) := by decide +kernel
theorem dX8_size_17 : decode cX8_size 17 = .ok (.ifCond .ne 5, 3) := by decide +kernel
theorem dX8_size_20 : decode cX8_size 20 = .ok (.iconst (-1), 1) := by decide +kernel
theorem dX8_size_21 : decode cX8_size 21 = .ok (.ireturn, 1) := by decide +kernel
theorem dX8_size_22 : decode cX8_size 22 = .ok (.aload_n 0, 1) := by decide +kernel
theorem dX8_size_23 : decode cX8_size 23 = .ok (.invokevirtual 180, 3) := by decide +kernel
theorem dX8_size_26 : decode cX8_size 26 = .ok (.aload_n 0, 1) := by decide +kernel
theorem dX8_size_27 : decode cX8_size 27 = .ok (.iload_n 2, 1) := by decide +kernel
theorem dX8_size_28 : decode cX8_size 28 = .ok (.invokevirtual 183, 3) := by decide +kernel
theorem dX8_size_31 : decode cX8_size 31 = .ok (.aload_n 0, 1) := by decide +kernel
theorem dX8_size_32 : decode cX8_size 32 = .ok (.getfield 7, 3) := by decide +kernel
theorem dX8_size_35 : decode cX8_size 35 = .ok (.sipush 609, 3) := by decide +kernel
theorem dX8_size_38 : decode cX8_size 38 = .ok (.iload_n 1, 1) := by decide +kernel
theorem dX8_size_39 : decode cX8_size 39 = .ok (.iadd, 1) := by decide +kernel
theorem dX8_size_40 : decode cX8_size 40 = .ok (.iaload, 1) := by decide +kernel
theorem dX8_size_41 : decode cX8_size 41 = .ok (.ireturn, 1) := by decide +kernel
set_option maxRecDepth 20000 in
theorem ggX8_then_X8_in : GoodIn wsX8_then wsX8_in := goodIn_r _ [7] (by decide +kernel) (by decide +kernel)
set_option maxRecDepth 20000 in
theorem gX8_then_X8_in : GoodIn wsX8_then (va_wsS RX8 44 yX8_in wsX8_in) := goodIn_app (goodIn_of _ (by decide +kernel)) ggX8_then_X8_in
set_option maxRecDepth 20000 in
theorem ggX8_then_X8_tries : GoodIn wsX8_then wsX8_tries := goodIn_r _ [11, 12, 13, 14, 6, 15, 3, 63, 64, 65, 66, 67, 68, 69, 70, 71, 72, 73, 74, 75, 76, 77] (by decide +kernel) (by decide +kernel)
set_option maxRecDepth 20000 in
theorem gX8_then_X8_tries : GoodIn wsX8_then (wsV RX8 180 RX8 yX8_tries wsX8_tries) := goodIn_app (goodIn_of _ (by decide +kernel)) ggX8_then_X8_tries
set_option maxRecDepth 20000 in
theorem ggX8_then_X8_goesOn : GoodIn wsX8_then wsX8_goesOn := goodIn_r _ [19, 20, 21, 22, 6, 23, 3, 24, 25, 26, 27, 28, 29, 30, 31, 32, 33, 34, 35, 36, 37, 38, 39, 40, 41, 42, 43, 44, 45, 46, 47, 48, 49, 50, 51, 52, 53, 54, 63, 64, 65, 66, 67, 68, 69, 70, 71, 72, 73, 74, 75, 76, 77] (by decide +kernel) (by decide +kernel)
set_option maxRecDepth 20000 in
theorem gX8_then_X8_goesOn : GoodIn wsX8_then (wsV RX8 183 RX8 yX8_goesOn wsX8_goesOn) := goodIn_app (goodIn_of _ (by decide +kernel)) ggX8_then_X8_goesOn
set_option maxRecDepth 20000 in
theorem ggX8_then_X8_goneOnes : GoodIn wsX8_then wsX8_goneOnes := goodIn_r _ [58, 3, 35, 36, 37, 6, 38, 63, 64, 65, 66, 67, 68, 69, 70, 71, 72, 73, 74, 75, 76, 77] (by decide +kernel) (by decide +kernel)
set_option maxRecDepth 20000 in
theorem gX8_then_X8_goneOnes : GoodIn wsX8_then (wsV RX8 132 RX8 yX8_goneOnes wsX8_goneOnes) := goodIn_app (goodIn_of _ (by decide +kernel)) ggX8_then_X8_goneOnes
set_option maxRecDepth 20000 in
theorem ggX8_then_X8_tornOnes : GoodIn wsX8_then wsX8_tornOnes := goodIn_r _ [62, 3, 31, 32, 33, 6, 34, 63, 64, 65, 66, 67, 68, 69, 70, 71, 72, 73, 74, 75, 76, 77] (by decide +kernel) (by decide +kernel)
set_option maxRecDepth 20000 in
theorem gX8_then_X8_tornOnes : GoodIn wsX8_then (wsV RX8 135 RX8 yX8_tornOnes wsX8_tornOnes) := goodIn_app (goodIn_of _ (by decide +kernel)) ggX8_then_X8_tornOnes
theorem dX8_then_0 : decode cX8_then 0 = .ok (.iload_n 1, 1) := by decide +kernel
theorem dX8_then_1 : decode cX8_then 1 = .ok (.i2l, 1) := by decide +kernel
theorem dX8_then_2 : decode cX8_then 2 = .ok (.lconst 0, 1) := by decide +kernel
theorem dX8_then_3 : decode cX8_then 3 = .ok (.ldc2_w 48, 3) := by decide +kernel
theorem dX8_then_6 : decode cX8_then 6 = .ok (.invokestatic 44, 3) := by decide +kernel
theorem dX8_then_9 : decode cX8_then 9 = .ok (.ifCond .eq 15, 3) := by decide +kernel
theorem dX8_then_12 : decode cX8_then 12 = .ok (.iload_n 2, 1) := by decide +kernel
theorem dX8_then_13 : decode cX8_then 13 = .ok (.i2l, 1) := by decide +kernel
theorem dX8_then_14 : decode cX8_then 14 = .ok (.lconst 0, 1) := by decide +kernel
theorem dX8_then_15 : decode cX8_then 15 = .ok (.ldc2_w 187, 3) := by decide +kernel
theorem dX8_then_18 : decode cX8_then 18 = .ok (.invokestatic 44, 3) := by decide +kernel
theorem dX8_then_21 : decode cX8_then 21 = .ok (.ifCond .ne 5, 3) := by decide +kernel
theorem dX8_then_24 : decode cX8_then 24 = .ok (.iconst (-1), 1) := by decide +kernel
theorem dX8_then_25 : decode cX8_then 25 = .ok (.ireturn, 1) := by decide +kernel
theorem dX8_then_26 : decode cX8_then 26 = .ok (.aload_n 0, 1) := by decide +kernel
theorem dX8_then_27 : decode cX8_then 27 = .ok (.invokevirtual 180, 3) := by decide +kernel
theorem dX8_then_30 : decode cX8_then 30 = .ok (.aload_n 0, 1) := by decide +kernel
theorem dX8_then_31 : decode cX8_then 31 = .ok (.iload_n 1, 1) := by decide +kernel
theorem dX8_then_32 : decode cX8_then 32 = .ok (.invokevirtual 183, 3) := by decide +kernel
theorem dX8_then_35 : decode cX8_then 35 = .ok (.iload_n 2, 1) := by decide +kernel
theorem dX8_then_36 : decode cX8_then 36 = .ok (.ifCond .ne 13, 3) := by decide +kernel
theorem dX8_then_39 : decode cX8_then 39 = .ok (.aload_n 0, 1) := by decide +kernel
theorem dX8_then_40 : decode cX8_then 40 = .ok (.sipush 586, 3) := by decide +kernel
theorem dX8_then_43 : decode cX8_then 43 = .ok (.invokevirtual 132, 3) := by decide +kernel
theorem dX8_then_46 : decode cX8_then 46 = .ok (.goto 26, 3) := by decide +kernel
theorem dX8_then_49 : decode cX8_then 49 = .ok (.iload_n 2, 1) := by decide +kernel
theorem dX8_then_50 : decode cX8_then 50 = .ok (.iconst 1, 1) := by decide +kernel
theorem dX8_then_51 : decode cX8_then 51 = .ok (.if_icmp .ne 13, 3) := by decide +kernel
theorem dX8_then_54 : decode cX8_then 54 = .ok (.aload_n 0, 1) := by decide +kernel
theorem dX8_then_55 : decode cX8_then 55 = .ok (.sipush 586, 3) := by decide +kernel
theorem dX8_then_58 : decode cX8_then 58 = .ok (.invokevirtual 135, 3) := by decide +kernel
theorem dX8_then_61 : decode cX8_then 61 = .ok (.goto 11, 3) := by decide +kernel
theorem dX8_then_64 : decode cX8_then 64 = .ok (.aload_n 0, 1) := by decide +kernel
theorem dX8_then_65 : decode cX8_then 65 = .ok (.getfield 7, 3) := by decide +kernel
theorem dX8_then_68 : decode cX8_then 68 = .ok (.sipush 590, 3) := by decide +kernel
theorem dX8_then_71 : decode cX8_then 71 = .ok (.iaload, 1) := by decide +kernel
theorem dX8_then_72 : decode cX8_then 72 = .ok (.ireturn, 1) := by decide +kernel
set_option maxRecDepth 20000 in
theorem ggX8_gone_X8_isMark : GoodIn wsX8_gone wsX8_isMark := goodIn_r _ [5, 6, 7, 8, 4, 9, 53, 54, 55, 56, 57, 58, 59, 60, 61, 62, 63, 64, 65, 66, 67] (by decide +kernel) (by decide +kernel)
set_option maxRecDepth 20000 in
theorem gX8_gone_X8_isMark : GoodIn wsX8_gone (wsV RX8 63 RX8 yX8_isMark wsX8_isMark) := goodIn_app (goodIn_of _ (by decide +kernel)) ggX8_gone_X8_isMark
set_option maxRecDepth 20000 in
theorem ggX8_gone_X8_tries : GoodIn wsX8_gone wsX8_tries := goodIn_r _ [13, 14, 15, 16, 4, 17, 6, 53, 54, 55, 56, 57, 58, 59, 60, 61, 62, 63, 64, 65, 66, 67] (by decide +kernel) (by decide +kernel)
set_option maxRecDepth 20000 in
theorem gX8_gone_X8_tries : GoodIn wsX8_gone (wsV RX8 180 RX8 yX8_tries wsX8_tries) := goodIn_app (goodIn_of _ (by decide +kernel)) ggX8_gone_X8_tries
set_option maxRecDepth 20000 in
theorem ggX8_gone_X8_isGone : GoodIn wsX8_gone wsX8_isGone := goodIn_r _ [21, 6, 53, 54, 55, 56, 57, 58, 59, 60, 61, 62, 63, 64, 65, 66, 67] (by decide +kernel) (by decide +kernel)
set_option maxRecDepth 20000 in
theorem gX8_gone_X8_isGone : GoodIn wsX8_gone (wsV RX8 67 RX8 yX8_isGone wsX8_isGone) := goodIn_app (goodIn_of _ (by decide +kernel)) ggX8_gone_X8_isGone
set_option maxRecDepth 20000 in
theorem ggX8_gone_X8_passes : GoodIn wsX8_gone wsX8_passes := goodIn_r _ [25, 6, 26, 27, 4, 28, 29, 30, 31, 32, 33, 34, 35, 36, 18, 19, 20, 21, 37, 38, 39, 40, 41, 42, 43, 44, 45, 46, 47, 48, 49, 50, 51, 52, 53, 54, 55, 56, 57, 58, 59, 60, 61, 62, 63, 64, 65, 66, 67] (by decide +kernel) (by decide +kernel)
set_option maxRecDepth 20000 in
theorem gX8_gone_X8_passes : GoodIn wsX8_gone (wsV RX8 169 RX8 yX8_passes wsX8_passes) := goodIn_app (goodIn_of _ (by decide +kernel)) ggX8_gone_X8_passes
theorem dX8_gone_0 : decode cX8_gone 0 = .ok (.aload_n 0, 1) := by decide +kernel
theorem dX8_gone_1 : decode cX8_gone 1 = .ok (.iload_n 1, 1) := by decide +kernel
theorem dX8_gone_2 : decode cX8_gone 2 = .ok (.invokevirtual 63, 3) := by decide +kernel
theorem dX8_gone_5 : decode cX8_gone 5 = .ok (.ifCond .ne 5, 3) := by decide +kernel
theorem dX8_gone_8 : decode cX8_gone 8 = .ok (.iconst (-1), 1) := by decide +kernel
theorem dX8_gone_9 : decode cX8_gone 9 = .ok (.ireturn, 1) := by decide +kernel
theorem dX8_gone_10 : decode cX8_gone 10 = .ok (.aload_n 0, 1) := by decide +kernel
theorem dX8_gone_11 : decode cX8_gone 11 = .ok (.invokevirtual 180, 3) := by decide +kernel
theorem dX8_gone_14 : decode cX8_gone 14 = .ok (.iconst 0, 1) := by decide +kernel
theorem dX8_gone_15 : decode cX8_gone 15 = .ok (.istore_n 2, 1) := by decide +kernel
theorem dX8_gone_16 : decode cX8_gone 16 = .ok (.iload_n 2, 1) := by decide +kernel
theorem dX8_gone_17 : decode cX8_gone 17 = .ok (.bipush 60, 2) := by decide +kernel
theorem dX8_gone_19 : decode cX8_gone 19 = .ok (.if_icmp .gt 30, 3) := by decide +kernel
theorem dX8_gone_22 : decode cX8_gone 22 = .ok (.aload_n 0, 1) := by decide +kernel
theorem dX8_gone_23 : decode cX8_gone 23 = .ok (.sipush 586, 3) := by decide +kernel
theorem dX8_gone_26 : decode cX8_gone 26 = .ok (.iload_n 1, 1) := by decide +kernel
theorem dX8_gone_27 : decode cX8_gone 27 = .ok (.invokevirtual 67, 3) := by decide +kernel
theorem dX8_gone_30 : decode cX8_gone 30 = .ok (.ifCond .eq 5, 3) := by decide +kernel
theorem dX8_gone_33 : decode cX8_gone 33 = .ok (.iload_n 2, 1) := by decide +kernel
theorem dX8_gone_34 : decode cX8_gone 34 = .ok (.ireturn, 1) := by decide +kernel
theorem dX8_gone_35 : decode cX8_gone 35 = .ok (.aload_n 0, 1) := by decide +kernel
theorem dX8_gone_36 : decode cX8_gone 36 = .ok (.sipush 586, 3) := by decide +kernel
theorem dX8_gone_39 : decode cX8_gone 39 = .ok (.iconst 0, 1) := by decide +kernel
theorem dX8_gone_40 : decode cX8_gone 40 = .ok (.invokevirtual 169, 3) := by decide +kernel
theorem dX8_gone_43 : decode cX8_gone 43 = .ok (.iinc 2 1, 3) := by decide +kernel
theorem dX8_gone_46 : decode cX8_gone 46 = .ok (.goto (-30), 3) := by decide +kernel
theorem dX8_gone_49 : decode cX8_gone 49 = .ok (.bipush (-4), 2) := by decide +kernel
theorem dX8_gone_51 : decode cX8_gone 51 = .ok (.ireturn, 1) := by decide +kernel
set_option maxRecDepth 20000 in
theorem ggX8_needs_X8_isMonk : GoodIn wsX8_needs wsX8_isMonk := goodIn_r _ [5, 6, 7, 8, 4, 9, 50, 51, 52, 53, 54, 55, 56, 57, 58, 59, 60, 61, 62, 63, 64] (by decide +kernel) (by decide +kernel)
set_option maxRecDepth 20000 in
theorem gX8_needs_X8_isMonk : GoodIn wsX8_needs (wsV RX8 78 RX8 yX8_isMonk wsX8_isMonk) := goodIn_app (goodIn_of _ (by decide +kernel)) ggX8_needs_X8_isMonk
set_option maxRecDepth 20000 in
theorem ggX8_needs_X8_isMark : GoodIn wsX8_needs wsX8_isMark := goodIn_r _ [13, 6, 7, 8, 4, 9, 50, 51, 52, 53, 54, 55, 56, 57, 58, 59, 60, 61, 62, 63, 64] (by decide +kernel) (by decide +kernel)
set_option maxRecDepth 20000 in
theorem gX8_needs_X8_isMark : GoodIn wsX8_needs (wsV RX8 63 RX8 yX8_isMark wsX8_isMark) := goodIn_app (goodIn_of _ (by decide +kernel)) ggX8_needs_X8_isMark
set_option maxRecDepth 20000 in
theorem ggX8_needs_X8_tries : GoodIn wsX8_needs wsX8_tries := goodIn_r _ [17, 18, 19, 20, 4, 21, 6, 50, 51, 52, 53, 54, 55, 56, 57, 58, 59, 60, 61, 62, 63, 64] (by decide +kernel) (by decide +kernel)
set_option maxRecDepth 20000 in
theorem gX8_needs_X8_tries : GoodIn wsX8_needs (wsV RX8 180 RX8 yX8_tries wsX8_tries) := goodIn_app (goodIn_of _ (by decide +kernel)) ggX8_needs_X8_tries
set_option maxRecDepth 20000 in
theorem ggX8_needs_X8_canRub : GoodIn wsX8_needs wsX8_canRub := goodIn_r _ [25, 6, 26, 27, 28, 4, 29, 30, 31, 32, 33, 50, 51, 52, 53, 54, 55, 56, 57, 58, 59, 60, 61, 62, 63, 64] (by decide +kernel) (by decide +kernel)
set_option maxRecDepth 20000 in
theorem gX8_needs_X8_canRub : GoodIn wsX8_needs (wsV RX8 157 RX8 yX8_canRub wsX8_canRub) := goodIn_app (goodIn_of _ (by decide +kernel)) ggX8_needs_X8_canRub
set_option maxRecDepth 20000 in
theorem ggX8_needs_X8_rubs : GoodIn wsX8_needs wsX8_rubs := goodIn_r _ [37, 6, 38, 39, 4, 40, 41, 42, 43, 44, 45, 46, 47, 48, 49, 26, 27, 28, 29, 50, 51, 52, 53, 54, 55, 56, 57, 58, 59, 60, 61, 62, 63, 64] (by decide +kernel) (by decide +kernel)
set_option maxRecDepth 20000 in
theorem gX8_needs_X8_rubs : GoodIn wsX8_needs (wsV RX8 161 RX8 yX8_rubs wsX8_rubs) := goodIn_app (goodIn_of _ (by decide +kernel)) ggX8_needs_X8_rubs
set_option maxRecDepth 20000 in
theorem ggX8_needs_X8_isGone : GoodIn wsX8_needs wsX8_isGone := goodIn_r _ [33, 6, 50, 51, 52, 53, 54, 55, 56, 57, 58, 59, 60, 61, 62, 63, 64] (by decide +kernel) (by decide +kernel)
set_option maxRecDepth 20000 in
theorem gX8_needs_X8_isGone : GoodIn wsX8_needs (wsV RX8 67 RX8 yX8_isGone wsX8_isGone) := goodIn_app (goodIn_of _ (by decide +kernel)) ggX8_needs_X8_isGone
theorem dX8_needs_0 : decode cX8_needs 0 = .ok (.aload_n 0, 1) := by decide +kernel
theorem dX8_needs_1 : decode cX8_needs 1 = .ok (.iload_n 1, 1) := by decide +kernel
theorem dX8_needs_2 : decode cX8_needs 2 = .ok (.invokevirtual 78, 3) := by decide +kernel
theorem dX8_needs_5 : decode cX8_needs 5 = .ok (.ifCond .eq 11, 3) := by decide +kernel
theorem dX8_needs_8 : decode cX8_needs 8 = .ok (.aload_n 0, 1) := by decide +kernel
theorem dX8_needs_9 : decode cX8_needs 9 = .ok (.iload_n 2, 1) := by decide +kernel
theorem dX8_needs_10 : decode cX8_needs 10 = .ok (.invokevirtual 63, 3) := by decide +kernel
theorem dX8_needs_13 : decode cX8_needs 13 = .ok (.ifCond .ne 5, 3) := by decide +kernel
theorem dX8_needs_16 : decode cX8_needs 16 = .ok (.iconst (-1), 1) := by decide +kernel
theorem dX8_needs_17 : decode cX8_needs 17 = .ok (.ireturn, 1) := by decide +kernel
theorem dX8_needs_18 : decode cX8_needs 18 = .ok (.aload_n 0, 1) := by decide +kernel
theorem dX8_needs_19 : decode cX8_needs 19 = .ok (.invokevirtual 180, 3) := by decide +kernel
theorem dX8_needs_22 : decode cX8_needs 22 = .ok (.iconst 0, 1) := by decide +kernel
theorem dX8_needs_23 : decode cX8_needs 23 = .ok (.istore_n 3, 1) := by decide +kernel
theorem dX8_needs_24 : decode cX8_needs 24 = .ok (.iload_n 3, 1) := by decide +kernel
theorem dX8_needs_25 : decode cX8_needs 25 = .ok (.bipush 60, 2) := by decide +kernel
theorem dX8_needs_27 : decode cX8_needs 27 = .ok (.if_icmp .ge 30, 3) := by decide +kernel
theorem dX8_needs_30 : decode cX8_needs 30 = .ok (.aload_n 0, 1) := by decide +kernel
theorem dX8_needs_31 : decode cX8_needs 31 = .ok (.sipush 586, 3) := by decide +kernel
theorem dX8_needs_34 : decode cX8_needs 34 = .ok (.iload_n 1, 1) := by decide +kernel
theorem dX8_needs_35 : decode cX8_needs 35 = .ok (.iload_n 2, 1) := by decide +kernel
theorem dX8_needs_36 : decode cX8_needs 36 = .ok (.invokevirtual 157, 3) := by decide +kernel
theorem dX8_needs_39 : decode cX8_needs 39 = .ok (.ifCond .eq 18, 3) := by decide +kernel
theorem dX8_needs_42 : decode cX8_needs 42 = .ok (.aload_n 0, 1) := by decide +kernel
theorem dX8_needs_43 : decode cX8_needs 43 = .ok (.sipush 586, 3) := by decide +kernel
theorem dX8_needs_46 : decode cX8_needs 46 = .ok (.iload_n 1, 1) := by decide +kernel
theorem dX8_needs_47 : decode cX8_needs 47 = .ok (.iload_n 2, 1) := by decide +kernel
theorem dX8_needs_48 : decode cX8_needs 48 = .ok (.invokevirtual 161, 3) := by decide +kernel
theorem dX8_needs_51 : decode cX8_needs 51 = .ok (.iinc 3 1, 3) := by decide +kernel
theorem dX8_needs_54 : decode cX8_needs 54 = .ok (.goto (-30), 3) := by decide +kernel
theorem dX8_needs_57 : decode cX8_needs 57 = .ok (.aload_n 0, 1) := by decide +kernel
theorem dX8_needs_58 : decode cX8_needs 58 = .ok (.sipush 586, 3) := by decide +kernel
theorem dX8_needs_61 : decode cX8_needs 61 = .ok (.iload_n 2, 1) := by decide +kernel
theorem dX8_needs_62 : decode cX8_needs 62 = .ok (.invokevirtual 67, 3) := by decide +kernel
theorem dX8_needs_65 : decode cX8_needs 65 = .ok (.ifCond .eq 7, 3) := by decide +kernel
theorem dX8_needs_68 : decode cX8_needs 68 = .ok (.iload_n 3, 1) := by decide +kernel
theorem dX8_needs_69 : decode cX8_needs 69 = .ok (.goto 5, 3) := by decide +kernel
theorem dX8_needs_72 : decode cX8_needs 72 = .ok (.bipush (-4), 2) := by decide +kernel
theorem dX8_needs_74 : decode cX8_needs 74 = .ok (.ireturn, 1) := by decide +kernel
theorem dX8_ones_0 : decode cX8_ones 0 = .ok (.iconst 0, 1) := by decide +kernel
theorem dX8_ones_1 : decode cX8_ones 1 = .ok (.istore_n 1, 1) := by decide +kernel
theorem dX8_ones_2 : decode cX8_ones 2 = .ok (.iconst 0, 1) := by decide +kernel
theorem dX8_ones_3 : decode cX8_ones 3 = .ok (.istore_n 2, 1) := by decide +kernel
theorem dX8_ones_4 : decode cX8_ones 4 = .ok (.iload_n 2, 1) := by decide +kernel
theorem dX8_ones_5 : decode cX8_ones 5 = .ok (.bipush 6, 2) := by decide +kernel
theorem dX8_ones_7 : decode cX8_ones 7 = .ok (.if_icmp .ge 17, 3) := by decide +kernel
theorem dX8_ones_10 : decode cX8_ones 10 = .ok (.iload_n 1, 1) := by decide +kernel
theorem dX8_ones_11 : decode cX8_ones 11 = .ok (.iload_n 0, 1) := by decide +kernel
theorem dX8_ones_12 : decode cX8_ones 12 = .ok (.iload_n 2, 1) := by decide +kernel
theorem dX8_ones_13 : decode cX8_ones 13 = .ok (.ishr, 1) := by decide +kernel
theorem dX8_ones_14 : decode cX8_ones 14 = .ok (.iconst 1, 1) := by decide +kernel
theorem dX8_ones_15 : decode cX8_ones 15 = .ok (.iand, 1) := by decide +kernel
theorem dX8_ones_16 : decode cX8_ones 16 = .ok (.iadd, 1) := by decide +kernel
theorem dX8_ones_17 : decode cX8_ones 17 = .ok (.istore_n 1, 1) := by decide +kernel
theorem dX8_ones_18 : decode cX8_ones 18 = .ok (.iinc 2 1, 3) := by decide +kernel
theorem dX8_ones_21 : decode cX8_ones 21 = .ok (.goto (-17), 3) := by decide +kernel
theorem dX8_ones_24 : decode cX8_ones 24 = .ok (.iload_n 1, 1) := by decide +kernel
theorem dX8_ones_25 : decode cX8_ones 25 = .ok (.ireturn, 1) := by decide +kernel
set_option maxRecDepth 20000 in
theorem ggX8_sends_X8_in : GoodIn wsX8_sends wsX8_in := goodIn_r _ [7] (by decide +kernel) (by decide +kernel)
set_option maxRecDepth 20000 in
theorem gX8_sends_X8_in : GoodIn wsX8_sends (va_wsS RX8 44 yX8_in wsX8_in) := goodIn_app (goodIn_of _ (by decide +kernel)) ggX8_sends_X8_in
set_option maxRecDepth 20000 in
theorem ggX8_sends_X8_tries : GoodIn wsX8_sends wsX8_tries := goodIn_r _ [11, 12, 13, 14, 6, 15, 2, 62, 63, 64, 65, 66, 67, 68, 69, 70, 71, 72, 73, 74, 75, 76] (by decide +kernel) (by decide +kernel)
set_option maxRecDepth 20000 in
theorem gX8_sends_X8_tries : GoodIn wsX8_sends (wsV RX8 180 RX8 yX8_tries wsX8_tries) := goodIn_app (goodIn_of _ (by decide +kernel)) ggX8_sends_X8_tries
set_option maxRecDepth 20000 in
theorem ggX8_sends_X8_goesOn : GoodIn wsX8_sends wsX8_goesOn := goodIn_r _ [19, 20, 21, 22, 6, 23, 2, 24, 25, 26, 27, 28, 29, 30, 31, 32, 33, 34, 35, 36, 37, 38, 39, 40, 41, 42, 43, 44, 45, 46, 47, 48, 49, 50, 51, 52, 53, 54, 62, 63, 64, 65, 66, 67, 68, 69, 70, 71, 72, 73, 74, 75, 76] (by decide +kernel) (by decide +kernel)
set_option maxRecDepth 20000 in
theorem gX8_sends_X8_goesOn : GoodIn wsX8_sends (wsV RX8 183 RX8 yX8_goesOn wsX8_goesOn) := goodIn_app (goodIn_of _ (by decide +kernel)) ggX8_sends_X8_goesOn
set_option maxRecDepth 20000 in
theorem ggX8_sends_X8_goneOnes : GoodIn wsX8_sends wsX8_goneOnes := goodIn_r _ [58, 2, 35, 36, 37, 6, 38, 62, 63, 64, 65, 66, 67, 68, 69, 70, 71, 72, 73, 74, 75, 76] (by decide +kernel) (by decide +kernel)
set_option maxRecDepth 20000 in
theorem gX8_sends_X8_goneOnes : GoodIn wsX8_sends (wsV RX8 132 RX8 yX8_goneOnes wsX8_goneOnes) := goodIn_app (goodIn_of _ (by decide +kernel)) ggX8_sends_X8_goneOnes
set_option maxRecDepth 20000 in
theorem ggX8_sends_X8_ones : GoodIn wsX8_sends wsX8_ones := goodIn_r _ [61] (by decide +kernel) (by decide +kernel)
set_option maxRecDepth 20000 in
theorem gX8_sends_X8_ones : GoodIn wsX8_sends (va_wsS RX8 191 yX8_ones wsX8_ones) := goodIn_app (goodIn_of _ (by decide +kernel)) ggX8_sends_X8_ones
theorem dX8_sends_0 : decode cX8_sends 0 = .ok (.iload_n 1, 1) := by decide +kernel
theorem dX8_sends_1 : decode cX8_sends 1 = .ok (.i2l, 1) := by decide +kernel
theorem dX8_sends_2 : decode cX8_sends 2 = .ok (.lconst 0, 1) := by decide +kernel
theorem dX8_sends_3 : decode cX8_sends 3 = .ok (.ldc2_w 189, 3) := by decide +kernel
theorem dX8_sends_6 : decode cX8_sends 6 = .ok (.invokestatic 44, 3) := by decide +kernel
theorem dX8_sends_9 : decode cX8_sends 9 = .ok (.ifCond .eq 8, 3) := by decide +kernel
theorem dX8_sends_12 : decode cX8_sends 12 = .ok (.iload_n 2, 1) := by decide +kernel
theorem dX8_sends_13 : decode cX8_sends 13 = .ok (.iconst (-1), 1) := by decide +kernel
theorem dX8_sends_14 : decode cX8_sends 14 = .ok (.if_icmp .ge 5, 3) := by decide +kernel
theorem dX8_sends_17 : decode cX8_sends 17 = .ok (.iconst (-1), 1) := by decide +kernel
theorem dX8_sends_18 : decode cX8_sends 18 = .ok (.ireturn, 1) := by decide +kernel
theorem dX8_sends_19 : decode cX8_sends 19 = .ok (.iconst 1, 1) := by decide +kernel
theorem dX8_sends_20 : decode cX8_sends 20 = .ok (.istore_n 3, 1) := by decide +kernel
theorem dX8_sends_21 : decode cX8_sends 21 = .ok (.iconst 0, 1) := by decide +kernel
theorem dX8_sends_22 : decode cX8_sends 22 = .ok (.istore 4, 2) := by decide +kernel
theorem dX8_sends_24 : decode cX8_sends 24 = .ok (.iload 4, 2) := by decide +kernel
theorem dX8_sends_26 : decode cX8_sends 26 = .ok (.aload_n 0, 1) := by decide +kernel
theorem dX8_sends_27 : decode cX8_sends 27 = .ok (.getfield 7, 3) := by decide +kernel
theorem dX8_sends_30 : decode cX8_sends 30 = .ok (.iconst 1, 1) := by decide +kernel
theorem dX8_sends_31 : decode cX8_sends 31 = .ok (.iaload, 1) := by decide +kernel
theorem dX8_sends_32 : decode cX8_sends 32 = .ok (.if_icmp .ge 18, 3) := by decide +kernel
theorem dX8_sends_35 : decode cX8_sends 35 = .ok (.iload_n 3, 1) := by decide +kernel
theorem dX8_sends_36 : decode cX8_sends 36 = .ok (.aload_n 0, 1) := by decide +kernel
theorem dX8_sends_37 : decode cX8_sends 37 = .ok (.getfield 7, 3) := by decide +kernel
theorem dX8_sends_40 : decode cX8_sends 40 = .ok (.iconst 0, 1) := by decide +kernel
theorem dX8_sends_41 : decode cX8_sends 41 = .ok (.iaload, 1) := by decide +kernel
theorem dX8_sends_42 : decode cX8_sends 42 = .ok (.imul, 1) := by decide +kernel
theorem dX8_sends_43 : decode cX8_sends 43 = .ok (.istore_n 3, 1) := by decide +kernel
theorem dX8_sends_44 : decode cX8_sends 44 = .ok (.iinc 4 1, 3) := by decide +kernel
theorem dX8_sends_47 : decode cX8_sends 47 = .ok (.goto (-23), 3) := by decide +kernel
theorem dX8_sends_50 : decode cX8_sends 50 = .ok (.aload_n 0, 1) := by decide +kernel
theorem dX8_sends_51 : decode cX8_sends 51 = .ok (.getfield 7, 3) := by decide +kernel
theorem dX8_sends_54 : decode cX8_sends 54 = .ok (.iconst 0, 1) := by decide +kernel
theorem dX8_sends_55 : decode cX8_sends 55 = .ok (.iaload, 1) := by decide +kernel
theorem dX8_sends_56 : decode cX8_sends 56 = .ok (.ifCond .ne 14, 3) := by decide +kernel
theorem dX8_sends_59 : decode cX8_sends 59 = .ok (.iload_n 2, 1) := by decide +kernel
theorem dX8_sends_60 : decode cX8_sends 60 = .ok (.ifCond .ge 7, 3) := by decide +kernel
theorem dX8_sends_63 : decode cX8_sends 63 = .ok (.iconst 0, 1) := by decide +kernel
theorem dX8_sends_64 : decode cX8_sends 64 = .ok (.goto 5, 3) := by decide +kernel
theorem dX8_sends_67 : decode cX8_sends 67 = .ok (.bipush (-4), 2) := by decide +kernel
theorem dX8_sends_69 : decode cX8_sends 69 = .ok (.ireturn, 1) := by decide +kernel
theorem dX8_sends_70 : decode cX8_sends 70 = .ok (.iconst (-1), 1) := by decide +kernel
theorem dX8_sends_71 : decode cX8_sends 71 = .ok (.istore 4, 2) := by decide +kernel
theorem dX8_sends_73 : decode cX8_sends 73 = .ok (.iconst 0, 1) := by decide +kernel
theorem dX8_sends_74 : decode cX8_sends 74 = .ok (.istore 5, 2) := by decide +kernel
theorem dX8_sends_76 : decode cX8_sends 76 = .ok (.iload 5, 2) := by decide +kernel
theorem dX8_sends_78 : decode cX8_sends 78 = .ok (.iload_n 3, 1) := by decide +kernel
theorem dX8_sends_79 : decode cX8_sends 79 = .ok (.if_icmp .ge 149, 3) := by decide +kernel
theorem dX8_sends_82 : decode cX8_sends 82 = .ok (.iload 5, 2) := by decide +kernel
theorem dX8_sends_84 : decode cX8_sends 84 = .ok (.istore 6, 2) := by decide +kernel
theorem dX8_sends_86 : decode cX8_sends 86 = .ok (.aload_n 0, 1) := by decide +kernel
theorem dX8_sends_87 : decode cX8_sends 87 = .ok (.invokevirtual 180, 3) := by decide +kernel
theorem dX8_sends_90 : decode cX8_sends 90 = .ok (.aload_n 0, 1) := by decide +kernel
theorem dX8_sends_91 : decode cX8_sends 91 = .ok (.getfield 7, 3) := by decide +kernel
theorem dX8_sends_94 : decode cX8_sends 94 = .ok (.iconst 1, 1) := by decide +kernel
theorem dX8_sends_95 : decode cX8_sends 95 = .ok (.iaload, 1) := by decide +kernel
theorem dX8_sends_96 : decode cX8_sends 96 = .ok (.iconst 1, 1) := by decide +kernel
theorem dX8_sends_97 : decode cX8_sends 97 = .ok (.isub, 1) := by decide +kernel
theorem dX8_sends_98 : decode cX8_sends 98 = .ok (.istore 7, 2) := by decide +kernel
theorem dX8_sends_100 : decode cX8_sends 100 = .ok (.iload 7, 2) := by decide +kernel
theorem dX8_sends_102 : decode cX8_sends 102 = .ok (.ifCond .lt 40, 3) := by decide +kernel
theorem dX8_sends_105 : decode cX8_sends 105 = .ok (.aload_n 0, 1) := by decide +kernel
theorem dX8_sends_106 : decode cX8_sends 106 = .ok (.getfield 7, 3) := by decide +kernel
theorem dX8_sends_109 : decode cX8_sends 109 = .ok (.sipush 614, 3) := by decide +kernel
theorem dX8_sends_112 : decode cX8_sends 112 = .ok (.iload 7, 2) := by decide +kernel
theorem dX8_sends_114 : decode cX8_sends 114 = .ok (.iadd, 1) := by decide +kernel
theorem dX8_sends_115 : decode cX8_sends 115 = .ok (.iload 6, 2) := by decide +kernel
theorem dX8_sends_117 : decode cX8_sends 117 = .ok (.aload_n 0, 1) := by decide +kernel
theorem dX8_sends_118 : decode cX8_sends 118 = .ok (.getfield 7, 3) := by decide +kernel
theorem dX8_sends_121 : decode cX8_sends 121 = .ok (.iconst 0, 1) := by decide +kernel
theorem dX8_sends_122 : decode cX8_sends 122 = .ok (.iaload, 1) := by decide +kernel
theorem dX8_sends_123 : decode cX8_sends 123 = .ok (.irem, 1) := by decide +kernel
theorem dX8_sends_124 : decode cX8_sends 124 = .ok (.iastore, 1) := by decide +kernel
theorem dX8_sends_125 : decode cX8_sends 125 = .ok (.iload 6, 2) := by decide +kernel
theorem dX8_sends_127 : decode cX8_sends 127 = .ok (.aload_n 0, 1) := by decide +kernel
theorem dX8_sends_128 : decode cX8_sends 128 = .ok (.getfield 7, 3) := by decide +kernel
theorem dX8_sends_131 : decode cX8_sends 131 = .ok (.iconst 0, 1) := by decide +kernel
theorem dX8_sends_132 : decode cX8_sends 132 = .ok (.iaload, 1) := by decide +kernel
theorem dX8_sends_133 : decode cX8_sends 133 = .ok (.idiv, 1) := by decide +kernel
theorem dX8_sends_134 : decode cX8_sends 134 = .ok (.istore 6, 2) := by decide +kernel
theorem dX8_sends_136 : decode cX8_sends 136 = .ok (.iinc 7 (-1), 3) := by decide +kernel
theorem dX8_sends_139 : decode cX8_sends 139 = .ok (.goto (-39), 3) := by decide +kernel
theorem dX8_sends_142 : decode cX8_sends 142 = .ok (.aload_n 0, 1) := by decide +kernel
theorem dX8_sends_143 : decode cX8_sends 143 = .ok (.iload_n 1, 1) := by decide +kernel
theorem dX8_sends_144 : decode cX8_sends 144 = .ok (.invokevirtual 183, 3) := by decide +kernel
theorem dX8_sends_147 : decode cX8_sends 147 = .ok (.aload_n 0, 1) := by decide +kernel
theorem dX8_sends_148 : decode cX8_sends 148 = .ok (.sipush 586, 3) := by decide +kernel
theorem dX8_sends_151 : decode cX8_sends 151 = .ok (.invokevirtual 132, 3) := by decide +kernel
theorem dX8_sends_154 : decode cX8_sends 154 = .ok (.invokestatic 191, 3) := by decide +kernel
theorem dX8_sends_157 : decode cX8_sends 157 = .ok (.istore 7, 2) := by decide +kernel
theorem dX8_sends_159 : decode cX8_sends 159 = .ok (.iload 7, 2) := by decide +kernel
theorem dX8_sends_161 : decode cX8_sends 161 = .ok (.iload 4, 2) := by decide +kernel
theorem dX8_sends_163 : decode cX8_sends 163 = .ok (.if_icmp .le 59, 3) := by decide +kernel
theorem dX8_sends_166 : decode cX8_sends 166 = .ok (.iload 7, 2) := by decide +kernel
theorem dX8_sends_168 : decode cX8_sends 168 = .ok (.istore 4, 2) := by decide +kernel
theorem dX8_sends_170 : decode cX8_sends 170 = .ok (.iload 5, 2) := by decide +kernel
theorem dX8_sends_172 : decode cX8_sends 172 = .ok (.istore 6, 2) := by decide +kernel
theorem dX8_sends_174 : decode cX8_sends 174 = .ok (.aload_n 0, 1) := by decide +kernel
theorem dX8_sends_175 : decode cX8_sends 175 = .ok (.getfield 7, 3) := by decide +kernel
theorem dX8_sends_178 : decode cX8_sends 178 = .ok (.iconst 1, 1) := by decide +kernel
theorem dX8_sends_179 : decode cX8_sends 179 = .ok (.iaload, 1) := by decide +kernel
theorem dX8_sends_180 : decode cX8_sends 180 = .ok (.iconst 1, 1) := by decide +kernel
theorem dX8_sends_181 : decode cX8_sends 181 = .ok (.isub, 1) := by decide +kernel
theorem dX8_sends_182 : decode cX8_sends 182 = .ok (.istore 8, 2) := by decide +kernel
theorem dX8_sends_184 : decode cX8_sends 184 = .ok (.iload 8, 2) := by decide +kernel
theorem dX8_sends_186 : decode cX8_sends 186 = .ok (.ifCond .lt 36, 3) := by decide +kernel
theorem dX8_sends_189 : decode cX8_sends 189 = .ok (.aload_n 0, 1) := by decide +kernel
theorem dX8_sends_190 : decode cX8_sends 190 = .ok (.getfield 26, 3) := by decide +kernel
theorem dX8_sends_193 : decode cX8_sends 193 = .ok (.iload 8, 2) := by decide +kernel
theorem dX8_sends_195 : decode cX8_sends 195 = .ok (.iload 6, 2) := by decide +kernel
theorem dX8_sends_197 : decode cX8_sends 197 = .ok (.aload_n 0, 1) := by decide +kernel
theorem dX8_sends_198 : decode cX8_sends 198 = .ok (.getfield 7, 3) := by decide +kernel
theorem dX8_sends_201 : decode cX8_sends 201 = .ok (.iconst 0, 1) := by decide +kernel
theorem dX8_sends_202 : decode cX8_sends 202 = .ok (.iaload, 1) := by decide +kernel
theorem dX8_sends_203 : decode cX8_sends 203 = .ok (.irem, 1) := by decide +kernel
theorem dX8_sends_204 : decode cX8_sends 204 = .ok (.iastore, 1) := by decide +kernel
theorem dX8_sends_205 : decode cX8_sends 205 = .ok (.iload 6, 2) := by decide +kernel
theorem dX8_sends_207 : decode cX8_sends 207 = .ok (.aload_n 0, 1) := by decide +kernel
theorem dX8_sends_208 : decode cX8_sends 208 = .ok (.getfield 7, 3) := by decide +kernel
theorem dX8_sends_211 : decode cX8_sends 211 = .ok (.iconst 0, 1) := by decide +kernel
theorem dX8_sends_212 : decode cX8_sends 212 = .ok (.iaload, 1) := by decide +kernel
theorem dX8_sends_213 : decode cX8_sends 213 = .ok (.idiv, 1) := by decide +kernel
theorem dX8_sends_214 : decode cX8_sends 214 = .ok (.istore 6, 2) := by decide +kernel
theorem dX8_sends_216 : decode cX8_sends 216 = .ok (.iinc 8 (-1), 3) := by decide +kernel
theorem dX8_sends_219 : decode cX8_sends 219 = .ok (.goto (-35), 3) := by decide +kernel
theorem dX8_sends_222 : decode cX8_sends 222 = .ok (.iinc 5 1, 3) := by decide +kernel
theorem dX8_sends_225 : decode cX8_sends 225 = .ok (.goto (-149), 3) := by decide +kernel
theorem dX8_sends_228 : decode cX8_sends 228 = .ok (.iload_n 2, 1) := by decide +kernel
theorem dX8_sends_229 : decode cX8_sends 229 = .ok (.ifCond .ge 8, 3) := by decide +kernel
theorem dX8_sends_232 : decode cX8_sends 232 = .ok (.iload 4, 2) := by decide +kernel
theorem dX8_sends_234 : decode cX8_sends 234 = .ok (.goto 24, 3) := by decide +kernel
theorem dX8_sends_237 : decode cX8_sends 237 = .ok (.iload_n 2, 1) := by decide +kernel
theorem dX8_sends_238 : decode cX8_sends 238 = .ok (.aload_n 0, 1) := by decide +kernel
theorem dX8_sends_239 : decode cX8_sends 239 = .ok (.getfield 7, 3) := by decide +kernel
theorem dX8_sends_242 : decode cX8_sends 242 = .ok (.iconst 1, 1) := by decide +kernel
theorem dX8_sends_243 : decode cX8_sends 243 = .ok (.iaload, 1) := by decide +kernel
theorem dX8_sends_244 : decode cX8_sends 244 = .ok (.if_icmp .ge 12, 3) := by decide +kernel
theorem dX8_sends_247 : decode cX8_sends 247 = .ok (.aload_n 0, 1) := by decide +kernel
theorem dX8_sends_248 : decode cX8_sends 248 = .ok (.getfield 26, 3) := by decide +kernel
theorem dX8_sends_251 : decode cX8_sends 251 = .ok (.iload_n 2, 1) := by decide +kernel
theorem dX8_sends_252 : decode cX8_sends 252 = .ok (.iaload, 1) := by decide +kernel
theorem dX8_sends_253 : decode cX8_sends 253 = .ok (.goto 5, 3) := by decide +kernel
theorem dX8_sends_256 : decode cX8_sends 256 = .ok (.bipush (-4), 2) := by decide +kernel
theorem dX8_sends_258 : decode cX8_sends 258 = .ok (.ireturn, 1) := by decide +kernel
set_option maxRecDepth 20000 in
theorem ggX8_freeOnes_X8_isGone : GoodIn wsX8_freeOnes wsX8_isGone := goodIn_r _ [6, 1, 11, 12, 13, 14, 15, 16, 17, 18, 19, 20, 21, 22, 23, 24, 25] (by decide +kernel) (by decide +kernel)
set_option maxRecDepth 20000 in
theorem gX8_freeOnes_X8_isGone : GoodIn wsX8_freeOnes (wsV RX8 67 RX8 yX8_isGone wsX8_isGone) := goodIn_app (goodIn_of _ (by decide +kernel)) ggX8_freeOnes_X8_isGone
set_option maxRecDepth 20000 in
theorem ggX8_freeOnes_X8_isTorn : GoodIn wsX8_freeOnes wsX8_isTorn := goodIn_r _ [10, 1, 11, 12, 13, 14, 15, 16, 17, 18, 19, 20, 21, 22, 23, 24, 25] (by decide +kernel) (by decide +kernel)
set_option maxRecDepth 20000 in
theorem gX8_freeOnes_X8_isTorn : GoodIn wsX8_freeOnes (wsV RX8 71 RX8 yX8_isTorn wsX8_isTorn) := goodIn_app (goodIn_of _ (by decide +kernel)) ggX8_freeOnes_X8_isTorn
theorem dX8_freeOnes_0 : decode cX8_freeOnes 0 = .ok (.iconst 0, 1) := by decide +kernel
theorem dX8_freeOnes_1 : decode cX8_freeOnes 1 = .ok (.istore_n 1, 1) := by decide +kernel
theorem dX8_freeOnes_2 : decode cX8_freeOnes 2 = .ok (.iconst 0, 1) := by decide +kernel
theorem dX8_freeOnes_3 : decode cX8_freeOnes 3 = .ok (.istore_n 2, 1) := by decide +kernel
theorem dX8_freeOnes_4 : decode cX8_freeOnes 4 = .ok (.iload_n 2, 1) := by decide +kernel
theorem dX8_freeOnes_5 : decode cX8_freeOnes 5 = .ok (.aload_n 0, 1) := by decide +kernel
theorem dX8_freeOnes_6 : decode cX8_freeOnes 6 = .ok (.getfield 7, 3) := by decide +kernel
theorem dX8_freeOnes_9 : decode cX8_freeOnes 9 = .ok (.iconst 0, 1) := by decide +kernel
theorem dX8_freeOnes_10 : decode cX8_freeOnes 10 = .ok (.iaload, 1) := by decide +kernel
theorem dX8_freeOnes_11 : decode cX8_freeOnes 11 = .ok (.if_icmp .ge 37, 3) := by decide +kernel
theorem dX8_freeOnes_14 : decode cX8_freeOnes 14 = .ok (.iload_n 1, 1) := by decide +kernel
theorem dX8_freeOnes_15 : decode cX8_freeOnes 15 = .ok (.aload_n 0, 1) := by decide +kernel
theorem dX8_freeOnes_16 : decode cX8_freeOnes 16 = .ok (.iconst 0, 1) := by decide +kernel
theorem dX8_freeOnes_17 : decode cX8_freeOnes 17 = .ok (.iload_n 2, 1) := by decide +kernel
theorem dX8_freeOnes_18 : decode cX8_freeOnes 18 = .ok (.invokevirtual 67, 3) := by decide +kernel
theorem dX8_freeOnes_21 : decode cX8_freeOnes 21 = .ok (.ifCond .ne 18, 3) := by decide +kernel
theorem dX8_freeOnes_24 : decode cX8_freeOnes 24 = .ok (.aload_n 0, 1) := by decide +kernel
theorem dX8_freeOnes_25 : decode cX8_freeOnes 25 = .ok (.iconst 0, 1) := by decide +kernel
theorem dX8_freeOnes_26 : decode cX8_freeOnes 26 = .ok (.iload_n 2, 1) := by decide +kernel
theorem dX8_freeOnes_27 : decode cX8_freeOnes 27 = .ok (.invokevirtual 71, 3) := by decide +kernel
theorem dX8_freeOnes_30 : decode cX8_freeOnes 30 = .ok (.ifCond .ne 9, 3) := by decide +kernel
theorem dX8_freeOnes_33 : decode cX8_freeOnes 33 = .ok (.iconst 1, 1) := by decide +kernel
theorem dX8_freeOnes_34 : decode cX8_freeOnes 34 = .ok (.iload_n 2, 1) := by decide +kernel
theorem dX8_freeOnes_35 : decode cX8_freeOnes 35 = .ok (.ishl, 1) := by decide +kernel
theorem dX8_freeOnes_36 : decode cX8_freeOnes 36 = .ok (.goto 4, 3) := by decide +kernel
theorem dX8_freeOnes_39 : decode cX8_freeOnes 39 = .ok (.iconst 0, 1) := by decide +kernel
theorem dX8_freeOnes_40 : decode cX8_freeOnes 40 = .ok (.ior, 1) := by decide +kernel
theorem dX8_freeOnes_41 : decode cX8_freeOnes 41 = .ok (.istore_n 1, 1) := by decide +kernel
theorem dX8_freeOnes_42 : decode cX8_freeOnes 42 = .ok (.iinc 2 1, 3) := by decide +kernel
theorem dX8_freeOnes_45 : decode cX8_freeOnes 45 = .ok (.goto (-41), 3) := by decide +kernel
theorem dX8_freeOnes_48 : decode cX8_freeOnes 48 = .ok (.iload_n 1, 1) := by decide +kernel
theorem dX8_freeOnes_49 : decode cX8_freeOnes 49 = .ok (.ireturn, 1) := by decide +kernel
theorem dX8_lays_0 : decode cX8_lays 0 = .ok (.iconst 0, 1) := by decide +kernel
theorem dX8_lays_1 : decode cX8_lays 1 = .ok (.istore_n 2, 1) := by decide +kernel
theorem dX8_lays_2 : decode cX8_lays 2 = .ok (.iload_n 2, 1) := by decide +kernel
theorem dX8_lays_3 : decode cX8_lays 3 = .ok (.bipush 44, 2) := by decide +kernel
theorem dX8_lays_5 : decode cX8_lays 5 = .ok (.if_icmp .ge 30, 3) := by decide +kernel
theorem dX8_lays_8 : decode cX8_lays 8 = .ok (.aload_n 0, 1) := by decide +kernel
theorem dX8_lays_9 : decode cX8_lays 9 = .ok (.getfield 7, 3) := by decide +kernel
theorem dX8_lays_12 : decode cX8_lays 12 = .ok (.sipush 586, 3) := by decide +kernel
theorem dX8_lays_15 : decode cX8_lays 15 = .ok (.iload_n 2, 1) := by decide +kernel
theorem dX8_lays_16 : decode cX8_lays 16 = .ok (.iadd, 1) := by decide +kernel
theorem dX8_lays_17 : decode cX8_lays 17 = .ok (.aload_n 0, 1) := by decide +kernel
theorem dX8_lays_18 : decode cX8_lays 18 = .ok (.getfield 35, 3) := by decide +kernel
theorem dX8_lays_21 : decode cX8_lays 21 = .ok (.bipush 44, 2) := by decide +kernel
theorem dX8_lays_23 : decode cX8_lays 23 = .ok (.iload_n 1, 1) := by decide +kernel
theorem dX8_lays_24 : decode cX8_lays 24 = .ok (.imul, 1) := by decide +kernel
theorem dX8_lays_25 : decode cX8_lays 25 = .ok (.iload_n 2, 1) := by decide +kernel
theorem dX8_lays_26 : decode cX8_lays 26 = .ok (.iadd, 1) := by decide +kernel
theorem dX8_lays_27 : decode cX8_lays 27 = .ok (.iaload, 1) := by decide +kernel
theorem dX8_lays_28 : decode cX8_lays 28 = .ok (.iastore, 1) := by decide +kernel
theorem dX8_lays_29 : decode cX8_lays 29 = .ok (.iinc 2 1, 3) := by decide +kernel
theorem dX8_lays_32 : decode cX8_lays 32 = .ok (.goto (-30), 3) := by decide +kernel
theorem dX8_lays_35 : decode cX8_lays 35 = .ok (.return_, 1) := by decide +kernel
theorem dX8_holds_0 : decode cX8_holds 0 = .ok (.iconst 0, 1) := by decide +kernel
theorem dX8_holds_1 : decode cX8_holds 1 = .ok (.istore_n 2, 1) := by decide +kernel
theorem dX8_holds_2 : decode cX8_holds 2 = .ok (.iload_n 2, 1) := by decide +kernel
theorem dX8_holds_3 : decode cX8_holds 3 = .ok (.bipush 44, 2) := by decide +kernel
theorem dX8_holds_5 : decode cX8_holds 5 = .ok (.if_icmp .ge 30, 3) := by decide +kernel
theorem dX8_holds_8 : decode cX8_holds 8 = .ok (.aload_n 0, 1) := by decide +kernel
theorem dX8_holds_9 : decode cX8_holds 9 = .ok (.getfield 35, 3) := by decide +kernel
theorem dX8_holds_12 : decode cX8_holds 12 = .ok (.bipush 44, 2) := by decide +kernel
theorem dX8_holds_14 : decode cX8_holds 14 = .ok (.iload_n 1, 1) := by decide +kernel
theorem dX8_holds_15 : decode cX8_holds 15 = .ok (.imul, 1) := by decide +kernel
theorem dX8_holds_16 : decode cX8_holds 16 = .ok (.iload_n 2, 1) := by decide +kernel
theorem dX8_holds_17 : decode cX8_holds 17 = .ok (.iadd, 1) := by decide +kernel
theorem dX8_holds_18 : decode cX8_holds 18 = .ok (.aload_n 0, 1) := by decide +kernel
theorem dX8_holds_19 : decode cX8_holds 19 = .ok (.getfield 7, 3) := by decide +kernel
theorem dX8_holds_22 : decode cX8_holds 22 = .ok (.sipush 586, 3) := by decide +kernel
theorem dX8_holds_25 : decode cX8_holds 25 = .ok (.iload_n 2, 1) := by decide +kernel
theorem dX8_holds_26 : decode cX8_holds 26 = .ok (.iadd, 1) := by decide +kernel
theorem dX8_holds_27 : decode cX8_holds 27 = .ok (.iaload, 1) := by decide +kernel
theorem dX8_holds_28 : decode cX8_holds 28 = .ok (.iastore, 1) := by decide +kernel
theorem dX8_holds_29 : decode cX8_holds 29 = .ok (.iinc 2 1, 3) := by decide +kernel
theorem dX8_holds_32 : decode cX8_holds 32 = .ok (.goto (-30), 3) := by decide +kernel
theorem dX8_holds_35 : decode cX8_holds 35 = .ok (.return_, 1) := by decide +kernel
set_option maxRecDepth 20000 in
theorem ggX8_bestRound_X8_freeOnes : GoodIn wsX8_bestRound wsX8_freeOnes := goodIn_r _ [8, 3, 9, 10, 11, 7, 12, 13, 14, 15, 16, 64, 65, 66, 67, 68, 69, 70, 71, 72, 73, 74, 75, 76, 77, 78] (by decide +kernel) (by decide +kernel)
set_option maxRecDepth 20000 in
theorem gX8_bestRound_X8_freeOnes : GoodIn wsX8_bestRound (wsV RX8 194 RX8 yX8_freeOnes wsX8_freeOnes) := goodIn_app (goodIn_of _ (by decide +kernel)) ggX8_bestRound_X8_freeOnes
set_option maxRecDepth 20000 in
theorem ggX8_bestRound_X8_ones : GoodIn wsX8_bestRound wsX8_ones := goodIn_r _ [19] (by decide +kernel) (by decide +kernel)
set_option maxRecDepth 20000 in
theorem gX8_bestRound_X8_ones : GoodIn wsX8_bestRound (va_wsS RX8 191 yX8_ones wsX8_ones) := goodIn_app (goodIn_of _ (by decide +kernel)) ggX8_bestRound_X8_ones
set_option maxRecDepth 20000 in
theorem ggX8_bestRound_X8_tries : GoodIn wsX8_bestRound wsX8_tries := goodIn_r _ [23, 24, 25, 26, 7, 27, 3, 64, 65, 66, 67, 68, 69, 70, 71, 72, 73, 74, 75, 76, 77, 78] (by decide +kernel) (by decide +kernel)
set_option maxRecDepth 20000 in
theorem gX8_bestRound_X8_tries : GoodIn wsX8_bestRound (wsV RX8 180 RX8 yX8_tries wsX8_tries) := goodIn_app (goodIn_of _ (by decide +kernel)) ggX8_bestRound_X8_tries
set_option maxRecDepth 20000 in
theorem ggX8_bestRound_X8_holds : GoodIn wsX8_bestRound wsX8_holds := goodIn_r _ [31, 32, 3, 64, 65, 66, 67, 68, 69, 70, 71, 72, 73, 74, 75, 76, 77, 78] (by decide +kernel) (by decide +kernel)
set_option maxRecDepth 20000 in
theorem gX8_bestRound_X8_holds : GoodIn wsX8_bestRound (wsV RX8 197 RX8 yX8_holds wsX8_holds) := goodIn_app (goodIn_of _ (by decide +kernel)) ggX8_bestRound_X8_holds
set_option maxRecDepth 20000 in
theorem ggX8_bestRound_X8_lays : GoodIn wsX8_bestRound wsX8_lays := goodIn_r _ [36, 3, 32, 64, 65, 66, 67, 68, 69, 70, 71, 72, 73, 74, 75, 76, 77, 78] (by decide +kernel) (by decide +kernel)
set_option maxRecDepth 20000 in
theorem gX8_bestRound_X8_lays : GoodIn wsX8_bestRound (wsV RX8 200 RX8 yX8_lays wsX8_lays) := goodIn_app (goodIn_of _ (by decide +kernel)) ggX8_bestRound_X8_lays
set_option maxRecDepth 20000 in
theorem ggX8_bestRound_X8_goneOnes : GoodIn wsX8_bestRound wsX8_goneOnes := goodIn_r _ [40, 3, 9, 10, 11, 7, 12, 64, 65, 66, 67, 68, 69, 70, 71, 72, 73, 74, 75, 76, 77, 78] (by decide +kernel) (by decide +kernel)
set_option maxRecDepth 20000 in
theorem gX8_bestRound_X8_goneOnes : GoodIn wsX8_bestRound (wsV RX8 132 RX8 yX8_goneOnes wsX8_goneOnes) := goodIn_app (goodIn_of _ (by decide +kernel)) ggX8_bestRound_X8_goneOnes
set_option maxRecDepth 20000 in
theorem ggX8_bestRound_X8_has : GoodIn wsX8_bestRound wsX8_has := goodIn_r _ [43] (by decide +kernel) (by decide +kernel)
set_option maxRecDepth 20000 in
theorem gX8_bestRound_X8_has : GoodIn wsX8_bestRound (va_wsS RX8 154 yX8_has wsX8_has) := goodIn_app (goodIn_of _ (by decide +kernel)) ggX8_bestRound_X8_has
set_option maxRecDepth 20000 in
theorem ggX8_bestRound_X8_canRub : GoodIn wsX8_bestRound wsX8_canRub := goodIn_r _ [47, 3, 13, 14, 15, 7, 16, 9, 10, 11, 12, 64, 65, 66, 67, 68, 69, 70, 71, 72, 73, 74, 75, 76, 77, 78] (by decide +kernel) (by decide +kernel)
set_option maxRecDepth 20000 in
theorem gX8_bestRound_X8_canRub : GoodIn wsX8_bestRound (wsV RX8 157 RX8 yX8_canRub wsX8_canRub) := goodIn_app (goodIn_of _ (by decide +kernel)) ggX8_bestRound_X8_canRub
set_option maxRecDepth 20000 in
theorem ggX8_bestRound_X8_rubs : GoodIn wsX8_bestRound wsX8_rubs := goodIn_r _ [51, 3, 52, 53, 7, 54, 55, 56, 57, 58, 59, 60, 61, 62, 63, 13, 14, 15, 16, 64, 65, 66, 67, 68, 69, 70, 71, 72, 73, 74, 75, 76, 77, 78] (by decide +kernel) (by decide +kernel)
set_option maxRecDepth 20000 in
theorem gX8_bestRound_X8_rubs : GoodIn wsX8_bestRound (wsV RX8 161 RX8 yX8_rubs wsX8_rubs) := goodIn_app (goodIn_of _ (by decide +kernel)) ggX8_bestRound_X8_rubs
theorem dX8_bestRound_0 : decode cX8_bestRound 0 = .ok (.aload_n 0, 1) := by decide +kernel
theorem dX8_bestRound_1 : decode cX8_bestRound 1 = .ok (.invokevirtual 194, 3) := by decide +kernel
theorem dX8_bestRound_4 : decode cX8_bestRound 4 = .ok (.istore_n 2, 1) := by decide +kernel
theorem dX8_bestRound_5 : decode cX8_bestRound 5 = .ok (.iload_n 2, 1) := by decide +kernel
theorem dX8_bestRound_6 : decode cX8_bestRound 6 = .ok (.invokestatic 191, 3) := by decide +kernel
theorem dX8_bestRound_9 : decode cX8_bestRound 9 = .ok (.istore_n 3, 1) := by decide +kernel
theorem dX8_bestRound_10 : decode cX8_bestRound 10 = .ok (.iconst (-1), 1) := by decide +kernel
theorem dX8_bestRound_11 : decode cX8_bestRound 11 = .ok (.istore 4, 2) := by decide +kernel
theorem dX8_bestRound_13 : decode cX8_bestRound 13 = .ok (.iconst 0, 1) := by decide +kernel
theorem dX8_bestRound_14 : decode cX8_bestRound 14 = .ok (.istore 5, 2) := by decide +kernel
theorem dX8_bestRound_16 : decode cX8_bestRound 16 = .ok (.aload_n 0, 1) := by decide +kernel
theorem dX8_bestRound_17 : decode cX8_bestRound 17 = .ok (.invokevirtual 180, 3) := by decide +kernel
theorem dX8_bestRound_20 : decode cX8_bestRound 20 = .ok (.aload_n 0, 1) := by decide +kernel
theorem dX8_bestRound_21 : decode cX8_bestRound 21 = .ok (.iconst 0, 1) := by decide +kernel
theorem dX8_bestRound_22 : decode cX8_bestRound 22 = .ok (.invokevirtual 197, 3) := by decide +kernel
theorem dX8_bestRound_25 : decode cX8_bestRound 25 = .ok (.aload_n 0, 1) := by decide +kernel
theorem dX8_bestRound_26 : decode cX8_bestRound 26 = .ok (.getfield 29, 3) := by decide +kernel
theorem dX8_bestRound_29 : decode cX8_bestRound 29 = .ok (.iconst 0, 1) := by decide +kernel
theorem dX8_bestRound_30 : decode cX8_bestRound 30 = .ok (.iconst (-1), 1) := by decide +kernel
theorem dX8_bestRound_31 : decode cX8_bestRound 31 = .ok (.iastore, 1) := by decide +kernel
theorem dX8_bestRound_32 : decode cX8_bestRound 32 = .ok (.iload 5, 2) := by decide +kernel
theorem dX8_bestRound_34 : decode cX8_bestRound 34 = .ok (.ifCond .lt 231, 3) := by decide +kernel
theorem dX8_bestRound_37 : decode cX8_bestRound 37 = .ok (.iconst 0, 1) := by decide +kernel
theorem dX8_bestRound_38 : decode cX8_bestRound 38 = .ok (.istore 6, 2) := by decide +kernel
theorem dX8_bestRound_40 : decode cX8_bestRound 40 = .ok (.iconst 0, 1) := by decide +kernel
theorem dX8_bestRound_41 : decode cX8_bestRound 41 = .ok (.istore 7, 2) := by decide +kernel
theorem dX8_bestRound_43 : decode cX8_bestRound 43 = .ok (.iload 7, 2) := by decide +kernel
theorem dX8_bestRound_45 : decode cX8_bestRound 45 = .ok (.iload 5, 2) := by decide +kernel
theorem dX8_bestRound_47 : decode cX8_bestRound 47 = .ok (.if_icmp .ge 23, 3) := by decide +kernel
theorem dX8_bestRound_50 : decode cX8_bestRound 50 = .ok (.iload 6, 2) := by decide +kernel
theorem dX8_bestRound_52 : decode cX8_bestRound 52 = .ok (.iconst 1, 1) := by decide +kernel
theorem dX8_bestRound_53 : decode cX8_bestRound 53 = .ok (.aload_n 0, 1) := by decide +kernel
theorem dX8_bestRound_54 : decode cX8_bestRound 54 = .ok (.getfield 29, 3) := by decide +kernel
theorem dX8_bestRound_57 : decode cX8_bestRound 57 = .ok (.iload 7, 2) := by decide +kernel
theorem dX8_bestRound_59 : decode cX8_bestRound 59 = .ok (.iaload, 1) := by decide +kernel
theorem dX8_bestRound_60 : decode cX8_bestRound 60 = .ok (.ishl, 1) := by decide +kernel
theorem dX8_bestRound_61 : decode cX8_bestRound 61 = .ok (.ior, 1) := by decide +kernel
theorem dX8_bestRound_62 : decode cX8_bestRound 62 = .ok (.istore 6, 2) := by decide +kernel
theorem dX8_bestRound_64 : decode cX8_bestRound 64 = .ok (.iinc 7 1, 3) := by decide +kernel
theorem dX8_bestRound_67 : decode cX8_bestRound 67 = .ok (.goto (-24), 3) := by decide +kernel
theorem dX8_bestRound_70 : decode cX8_bestRound 70 = .ok (.iload 5, 2) := by decide +kernel
theorem dX8_bestRound_72 : decode cX8_bestRound 72 = .ok (.iload_n 3, 1) := by decide +kernel
theorem dX8_bestRound_73 : decode cX8_bestRound 73 = .ok (.if_icmp .ne 67, 3) := by decide +kernel
theorem dX8_bestRound_76 : decode cX8_bestRound 76 = .ok (.aload_n 0, 1) := by decide +kernel
theorem dX8_bestRound_77 : decode cX8_bestRound 77 = .ok (.iload 5, 2) := by decide +kernel
theorem dX8_bestRound_79 : decode cX8_bestRound 79 = .ok (.invokevirtual 200, 3) := by decide +kernel
theorem dX8_bestRound_82 : decode cX8_bestRound 82 = .ok (.aload_n 0, 1) := by decide +kernel
theorem dX8_bestRound_83 : decode cX8_bestRound 83 = .ok (.sipush 586, 3) := by decide +kernel
theorem dX8_bestRound_86 : decode cX8_bestRound 86 = .ok (.invokevirtual 132, 3) := by decide +kernel
theorem dX8_bestRound_89 : decode cX8_bestRound 89 = .ok (.invokestatic 191, 3) := by decide +kernel
theorem dX8_bestRound_92 : decode cX8_bestRound 92 = .ok (.istore 7, 2) := by decide +kernel
theorem dX8_bestRound_94 : decode cX8_bestRound 94 = .ok (.iload 7, 2) := by decide +kernel
theorem dX8_bestRound_96 : decode cX8_bestRound 96 = .ok (.iload 4, 2) := by decide +kernel
theorem dX8_bestRound_98 : decode cX8_bestRound 98 = .ok (.if_icmp .le 36, 3) := by decide +kernel
theorem dX8_bestRound_101 : decode cX8_bestRound 101 = .ok (.iload 7, 2) := by decide +kernel
theorem dX8_bestRound_103 : decode cX8_bestRound 103 = .ok (.istore 4, 2) := by decide +kernel
theorem dX8_bestRound_105 : decode cX8_bestRound 105 = .ok (.iconst 0, 1) := by decide +kernel
theorem dX8_bestRound_106 : decode cX8_bestRound 106 = .ok (.istore 8, 2) := by decide +kernel
theorem dX8_bestRound_108 : decode cX8_bestRound 108 = .ok (.iload 8, 2) := by decide +kernel
theorem dX8_bestRound_110 : decode cX8_bestRound 110 = .ok (.iload_n 3, 1) := by decide +kernel
theorem dX8_bestRound_111 : decode cX8_bestRound 111 = .ok (.if_icmp .ge 23, 3) := by decide +kernel
theorem dX8_bestRound_114 : decode cX8_bestRound 114 = .ok (.aload_n 0, 1) := by decide +kernel
theorem dX8_bestRound_115 : decode cX8_bestRound 115 = .ok (.getfield 32, 3) := by decide +kernel
theorem dX8_bestRound_118 : decode cX8_bestRound 118 = .ok (.iload 8, 2) := by decide +kernel
theorem dX8_bestRound_120 : decode cX8_bestRound 120 = .ok (.aload_n 0, 1) := by decide +kernel
theorem dX8_bestRound_121 : decode cX8_bestRound 121 = .ok (.getfield 29, 3) := by decide +kernel
theorem dX8_bestRound_124 : decode cX8_bestRound 124 = .ok (.iload 8, 2) := by decide +kernel
theorem dX8_bestRound_126 : decode cX8_bestRound 126 = .ok (.iaload, 1) := by decide +kernel
theorem dX8_bestRound_127 : decode cX8_bestRound 127 = .ok (.iastore, 1) := by decide +kernel
theorem dX8_bestRound_128 : decode cX8_bestRound 128 = .ok (.iinc 8 1, 3) := by decide +kernel
theorem dX8_bestRound_131 : decode cX8_bestRound 131 = .ok (.goto (-23), 3) := by decide +kernel
theorem dX8_bestRound_134 : decode cX8_bestRound 134 = .ok (.iinc 5 (-1), 3) := by decide +kernel
theorem dX8_bestRound_137 : decode cX8_bestRound 137 = .ok (.goto 125, 3) := by decide +kernel
theorem dX8_bestRound_140 : decode cX8_bestRound 140 = .ok (.aload_n 0, 1) := by decide +kernel
theorem dX8_bestRound_141 : decode cX8_bestRound 141 = .ok (.getfield 29, 3) := by decide +kernel
theorem dX8_bestRound_144 : decode cX8_bestRound 144 = .ok (.iload 5, 2) := by decide +kernel
theorem dX8_bestRound_146 : decode cX8_bestRound 146 = .ok (.iaload, 1) := by decide +kernel
theorem dX8_bestRound_147 : decode cX8_bestRound 147 = .ok (.iconst 1, 1) := by decide +kernel
theorem dX8_bestRound_148 : decode cX8_bestRound 148 = .ok (.iadd, 1) := by decide +kernel
theorem dX8_bestRound_149 : decode cX8_bestRound 149 = .ok (.istore 7, 2) := by decide +kernel
theorem dX8_bestRound_151 : decode cX8_bestRound 151 = .ok (.iload 7, 2) := by decide +kernel
theorem dX8_bestRound_153 : decode cX8_bestRound 153 = .ok (.aload_n 0, 1) := by decide +kernel
theorem dX8_bestRound_154 : decode cX8_bestRound 154 = .ok (.getfield 7, 3) := by decide +kernel
theorem dX8_bestRound_157 : decode cX8_bestRound 157 = .ok (.iconst 0, 1) := by decide +kernel
theorem dX8_bestRound_158 : decode cX8_bestRound 158 = .ok (.iaload, 1) := by decide +kernel
theorem dX8_bestRound_159 : decode cX8_bestRound 159 = .ok (.if_icmp .ge 28, 3) := by decide +kernel
theorem dX8_bestRound_162 : decode cX8_bestRound 162 = .ok (.iload_n 2, 1) := by decide +kernel
theorem dX8_bestRound_163 : decode cX8_bestRound 163 = .ok (.iload 7, 2) := by decide +kernel
theorem dX8_bestRound_165 : decode cX8_bestRound 165 = .ok (.invokestatic 154, 3) := by decide +kernel
theorem dX8_bestRound_168 : decode cX8_bestRound 168 = .ok (.ifCond .eq 13, 3) := by decide +kernel
theorem dX8_bestRound_171 : decode cX8_bestRound 171 = .ok (.iload 6, 2) := by decide +kernel
theorem dX8_bestRound_173 : decode cX8_bestRound 173 = .ok (.iload 7, 2) := by decide +kernel
theorem dX8_bestRound_175 : decode cX8_bestRound 175 = .ok (.invokestatic 154, 3) := by decide +kernel
theorem dX8_bestRound_178 : decode cX8_bestRound 178 = .ok (.ifCond .eq 9, 3) := by decide +kernel
theorem dX8_bestRound_181 : decode cX8_bestRound 181 = .ok (.iinc 7 1, 3) := by decide +kernel
theorem dX8_bestRound_184 : decode cX8_bestRound 184 = .ok (.goto (-33), 3) := by decide +kernel
theorem dX8_bestRound_187 : decode cX8_bestRound 187 = .ok (.aload_n 0, 1) := by decide +kernel
theorem dX8_bestRound_188 : decode cX8_bestRound 188 = .ok (.getfield 29, 3) := by decide +kernel
theorem dX8_bestRound_191 : decode cX8_bestRound 191 = .ok (.iload 5, 2) := by decide +kernel
theorem dX8_bestRound_193 : decode cX8_bestRound 193 = .ok (.iload 7, 2) := by decide +kernel
theorem dX8_bestRound_195 : decode cX8_bestRound 195 = .ok (.iastore, 1) := by decide +kernel
theorem dX8_bestRound_196 : decode cX8_bestRound 196 = .ok (.iload 7, 2) := by decide +kernel
theorem dX8_bestRound_198 : decode cX8_bestRound 198 = .ok (.aload_n 0, 1) := by decide +kernel
theorem dX8_bestRound_199 : decode cX8_bestRound 199 = .ok (.getfield 7, 3) := by decide +kernel
theorem dX8_bestRound_202 : decode cX8_bestRound 202 = .ok (.iconst 0, 1) := by decide +kernel
theorem dX8_bestRound_203 : decode cX8_bestRound 203 = .ok (.iaload, 1) := by decide +kernel
theorem dX8_bestRound_204 : decode cX8_bestRound 204 = .ok (.if_icmp .ne 9, 3) := by decide +kernel
theorem dX8_bestRound_207 : decode cX8_bestRound 207 = .ok (.iinc 5 (-1), 3) := by decide +kernel
theorem dX8_bestRound_210 : decode cX8_bestRound 210 = .ok (.goto 52, 3) := by decide +kernel
theorem dX8_bestRound_213 : decode cX8_bestRound 213 = .ok (.aload_n 0, 1) := by decide +kernel
theorem dX8_bestRound_214 : decode cX8_bestRound 214 = .ok (.iload 5, 2) := by decide +kernel
theorem dX8_bestRound_216 : decode cX8_bestRound 216 = .ok (.invokevirtual 200, 3) := by decide +kernel
theorem dX8_bestRound_219 : decode cX8_bestRound 219 = .ok (.aload_n 0, 1) := by decide +kernel
theorem dX8_bestRound_220 : decode cX8_bestRound 220 = .ok (.sipush 586, 3) := by decide +kernel
theorem dX8_bestRound_223 : decode cX8_bestRound 223 = .ok (.iload_n 1, 1) := by decide +kernel
theorem dX8_bestRound_224 : decode cX8_bestRound 224 = .ok (.iload 7, 2) := by decide +kernel
theorem dX8_bestRound_226 : decode cX8_bestRound 226 = .ok (.invokevirtual 157, 3) := by decide +kernel
theorem dX8_bestRound_229 : decode cX8_bestRound 229 = .ok (.ifCond .eq 16, 3) := by decide +kernel
theorem dX8_bestRound_232 : decode cX8_bestRound 232 = .ok (.aload_n 0, 1) := by decide +kernel
theorem dX8_bestRound_233 : decode cX8_bestRound 233 = .ok (.sipush 586, 3) := by decide +kernel
theorem dX8_bestRound_236 : decode cX8_bestRound 236 = .ok (.iload_n 1, 1) := by decide +kernel
theorem dX8_bestRound_237 : decode cX8_bestRound 237 = .ok (.iload 7, 2) := by decide +kernel
theorem dX8_bestRound_239 : decode cX8_bestRound 239 = .ok (.invokevirtual 161, 3) := by decide +kernel
theorem dX8_bestRound_242 : decode cX8_bestRound 242 = .ok (.goto (-23), 3) := by decide +kernel
theorem dX8_bestRound_245 : decode cX8_bestRound 245 = .ok (.iinc 5 1, 3) := by decide +kernel
theorem dX8_bestRound_248 : decode cX8_bestRound 248 = .ok (.aload_n 0, 1) := by decide +kernel
theorem dX8_bestRound_249 : decode cX8_bestRound 249 = .ok (.iload 5, 2) := by decide +kernel
theorem dX8_bestRound_251 : decode cX8_bestRound 251 = .ok (.invokevirtual 197, 3) := by decide +kernel
theorem dX8_bestRound_254 : decode cX8_bestRound 254 = .ok (.aload_n 0, 1) := by decide +kernel
theorem dX8_bestRound_255 : decode cX8_bestRound 255 = .ok (.getfield 29, 3) := by decide +kernel
theorem dX8_bestRound_258 : decode cX8_bestRound 258 = .ok (.iload 5, 2) := by decide +kernel
theorem dX8_bestRound_260 : decode cX8_bestRound 260 = .ok (.iconst (-1), 1) := by decide +kernel
theorem dX8_bestRound_261 : decode cX8_bestRound 261 = .ok (.iastore, 1) := by decide +kernel
theorem dX8_bestRound_262 : decode cX8_bestRound 262 = .ok (.goto (-230), 3) := by decide +kernel
theorem dX8_bestRound_265 : decode cX8_bestRound 265 = .ok (.iload 4, 2) := by decide +kernel
theorem dX8_bestRound_267 : decode cX8_bestRound 267 = .ok (.ireturn, 1) := by decide +kernel
set_option maxRecDepth 20000 in
theorem ggX8_round_X8_isMonk : GoodIn wsX8_round wsX8_isMonk := goodIn_r _ [6, 7, 8, 9, 5, 10, 75, 76, 77, 78, 79, 80, 81, 82, 83, 84, 85, 86, 87, 88, 89] (by decide +kernel) (by decide +kernel)
set_option maxRecDepth 20000 in
theorem gX8_round_X8_isMonk : GoodIn wsX8_round (wsV RX8 78 RX8 yX8_isMonk wsX8_isMonk) := goodIn_app (goodIn_of _ (by decide +kernel)) ggX8_round_X8_isMonk
set_option maxRecDepth 20000 in
theorem ggX8_round_X8_bestRound : GoodIn wsX8_round wsX8_bestRound := goodIn_r _ [14, 15, 1, 7, 16, 17, 18, 5, 19, 20, 21, 22, 23, 24, 25, 26, 27, 28, 29, 30, 31, 32, 33, 34, 35, 36, 37, 38, 39, 40, 41, 42, 43, 44, 45, 46, 47, 48, 49, 50, 51, 52, 53, 54, 55, 56, 57, 58, 59, 60, 61, 62, 63, 64, 65, 66, 67, 68, 69, 70, 71, 72, 73, 74, 75, 76, 77, 78, 79, 80, 81, 82, 83, 84, 85, 86, 87, 88, 89] (by decide +kernel) (by decide +kernel)
set_option maxRecDepth 20000 in
theorem gX8_round_X8_bestRound : GoodIn wsX8_round (wsV RX8 203 RX8 yX8_bestRound wsX8_bestRound) := goodIn_app (goodIn_of _ (by decide +kernel)) ggX8_round_X8_bestRound
set_option maxRecDepth 20000 in
theorem ggX8_round_X8_freeOnes : GoodIn wsX8_round wsX8_freeOnes := goodIn_r _ [19, 7, 20, 21, 22, 5, 23, 24, 25, 26, 27, 75, 76, 77, 78, 79, 80, 81, 82, 83, 84, 85, 86, 87, 88, 89] (by decide +kernel) (by decide +kernel)
set_option maxRecDepth 20000 in
theorem gX8_round_X8_freeOnes : GoodIn wsX8_round (wsV RX8 194 RX8 yX8_freeOnes wsX8_freeOnes) := goodIn_app (goodIn_of _ (by decide +kernel)) ggX8_round_X8_freeOnes
set_option maxRecDepth 20000 in
theorem ggX8_round_X8_ones : GoodIn wsX8_round wsX8_ones := goodIn_r _ [30] (by decide +kernel) (by decide +kernel)
set_option maxRecDepth 20000 in
theorem gX8_round_X8_ones : GoodIn wsX8_round (va_wsS RX8 191 yX8_ones wsX8_ones) := goodIn_app (goodIn_of _ (by decide +kernel)) ggX8_round_X8_ones
theorem dX8_round_0 : decode cX8_round 0 = .ok (.aload_n 0, 1) := by decide +kernel
theorem dX8_round_1 : decode cX8_round 1 = .ok (.iload_n 1, 1) := by decide +kernel
theorem dX8_round_2 : decode cX8_round 2 = .ok (.invokevirtual 78, 3) := by decide +kernel
theorem dX8_round_5 : decode cX8_round 5 = .ok (.ifCond .eq 8, 3) := by decide +kernel
theorem dX8_round_8 : decode cX8_round 8 = .ok (.iload_n 2, 1) := by decide +kernel
theorem dX8_round_9 : decode cX8_round 9 = .ok (.iconst (-1), 1) := by decide +kernel
theorem dX8_round_10 : decode cX8_round 10 = .ok (.if_icmp .ge 5, 3) := by decide +kernel
theorem dX8_round_13 : decode cX8_round 13 = .ok (.iconst (-1), 1) := by decide +kernel
theorem dX8_round_14 : decode cX8_round 14 = .ok (.ireturn, 1) := by decide +kernel
theorem dX8_round_15 : decode cX8_round 15 = .ok (.aload_n 0, 1) := by decide +kernel
theorem dX8_round_16 : decode cX8_round 16 = .ok (.iload_n 1, 1) := by decide +kernel
theorem dX8_round_17 : decode cX8_round 17 = .ok (.invokevirtual 203, 3) := by decide +kernel
theorem dX8_round_20 : decode cX8_round 20 = .ok (.istore_n 3, 1) := by decide +kernel
theorem dX8_round_21 : decode cX8_round 21 = .ok (.iload_n 2, 1) := by decide +kernel
theorem dX8_round_22 : decode cX8_round 22 = .ok (.ifCond .ge 7, 3) := by decide +kernel
theorem dX8_round_25 : decode cX8_round 25 = .ok (.iload_n 3, 1) := by decide +kernel
theorem dX8_round_26 : decode cX8_round 26 = .ok (.goto 25, 3) := by decide +kernel
theorem dX8_round_29 : decode cX8_round 29 = .ok (.iload_n 2, 1) := by decide +kernel
theorem dX8_round_30 : decode cX8_round 30 = .ok (.aload_n 0, 1) := by decide +kernel
theorem dX8_round_31 : decode cX8_round 31 = .ok (.invokevirtual 194, 3) := by decide +kernel
theorem dX8_round_34 : decode cX8_round 34 = .ok (.invokestatic 191, 3) := by decide +kernel
theorem dX8_round_37 : decode cX8_round 37 = .ok (.if_icmp .ge 12, 3) := by decide +kernel
theorem dX8_round_40 : decode cX8_round 40 = .ok (.aload_n 0, 1) := by decide +kernel
theorem dX8_round_41 : decode cX8_round 41 = .ok (.getfield 32, 3) := by decide +kernel
theorem dX8_round_44 : decode cX8_round 44 = .ok (.iload_n 2, 1) := by decide +kernel
theorem dX8_round_45 : decode cX8_round 45 = .ok (.iaload, 1) := by decide +kernel
theorem dX8_round_46 : decode cX8_round 46 = .ok (.goto 5, 3) := by decide +kernel
theorem dX8_round_49 : decode cX8_round 49 = .ok (.bipush (-4), 2) := by decide +kernel
theorem dX8_round_51 : decode cX8_round 51 = .ok (.ireturn, 1) := by decide +kernel
set_option maxRecDepth 20000 in
theorem ggX8_pair_X8_isMark : GoodIn wsX8_pair wsX8_isMark := goodIn_r _ [8, 3, 9, 10, 7, 11, 48, 49, 50, 51, 52, 53, 54, 55, 56, 57, 58, 59, 60, 61, 62] (by decide +kernel) (by decide +kernel)
set_option maxRecDepth 20000 in
theorem gX8_pair_X8_isMark : GoodIn wsX8_pair (wsV RX8 63 RX8 yX8_isMark wsX8_isMark) := goodIn_app (goodIn_of _ (by decide +kernel)) ggX8_pair_X8_isMark
set_option maxRecDepth 20000 in
theorem ggX8_pair_X8_in : GoodIn wsX8_pair wsX8_in := goodIn_r _ [11] (by decide +kernel) (by decide +kernel)
set_option maxRecDepth 20000 in
theorem gX8_pair_X8_in : GoodIn wsX8_pair (va_wsS RX8 44 yX8_in wsX8_in) := goodIn_app (goodIn_of _ (by decide +kernel)) ggX8_pair_X8_in
set_option maxRecDepth 20000 in
theorem ggX8_pair_X8_tries : GoodIn wsX8_pair wsX8_tries := goodIn_r _ [15, 16, 17, 18, 7, 19, 3, 48, 49, 50, 51, 52, 53, 54, 55, 56, 57, 58, 59, 60, 61, 62] (by decide +kernel) (by decide +kernel)
set_option maxRecDepth 20000 in
theorem gX8_pair_X8_tries : GoodIn wsX8_pair (wsV RX8 180 RX8 yX8_tries wsX8_tries) := goodIn_app (goodIn_of _ (by decide +kernel)) ggX8_pair_X8_tries
set_option maxRecDepth 20000 in
theorem ggX8_pair_X8_canRub : GoodIn wsX8_pair wsX8_canRub := goodIn_r _ [23, 3, 24, 25, 26, 7, 27, 28, 29, 30, 31, 48, 49, 50, 51, 52, 53, 54, 55, 56, 57, 58, 59, 60, 61, 62] (by decide +kernel) (by decide +kernel)
set_option maxRecDepth 20000 in
theorem gX8_pair_X8_canRub : GoodIn wsX8_pair (wsV RX8 157 RX8 yX8_canRub wsX8_canRub) := goodIn_app (goodIn_of _ (by decide +kernel)) ggX8_pair_X8_canRub
set_option maxRecDepth 20000 in
theorem ggX8_pair_X8_rubs : GoodIn wsX8_pair wsX8_rubs := goodIn_r _ [35, 3, 36, 37, 7, 38, 39, 40, 41, 42, 43, 44, 45, 46, 47, 24, 25, 26, 27, 48, 49, 50, 51, 52, 53, 54, 55, 56, 57, 58, 59, 60, 61, 62] (by decide +kernel) (by decide +kernel)
set_option maxRecDepth 20000 in
theorem gX8_pair_X8_rubs : GoodIn wsX8_pair (wsV RX8 161 RX8 yX8_rubs wsX8_rubs) := goodIn_app (goodIn_of _ (by decide +kernel)) ggX8_pair_X8_rubs
set_option maxRecDepth 20000 in
theorem ggX8_pair_X8_isGone : GoodIn wsX8_pair wsX8_isGone := goodIn_r _ [31, 3, 48, 49, 50, 51, 52, 53, 54, 55, 56, 57, 58, 59, 60, 61, 62] (by decide +kernel) (by decide +kernel)
set_option maxRecDepth 20000 in
theorem gX8_pair_X8_isGone : GoodIn wsX8_pair (wsV RX8 67 RX8 yX8_isGone wsX8_isGone) := goodIn_app (goodIn_of _ (by decide +kernel)) ggX8_pair_X8_isGone
theorem dX8_pair_0 : decode cX8_pair 0 = .ok (.aload_n 0, 1) := by decide +kernel
theorem dX8_pair_1 : decode cX8_pair 1 = .ok (.iload_n 1, 1) := by decide +kernel
theorem dX8_pair_2 : decode cX8_pair 2 = .ok (.invokevirtual 63, 3) := by decide +kernel
theorem dX8_pair_5 : decode cX8_pair 5 = .ok (.ifCond .eq 15, 3) := by decide +kernel
theorem dX8_pair_8 : decode cX8_pair 8 = .ok (.iload_n 2, 1) := by decide +kernel
theorem dX8_pair_9 : decode cX8_pair 9 = .ok (.i2l, 1) := by decide +kernel
theorem dX8_pair_10 : decode cX8_pair 10 = .ok (.lconst 0, 1) := by decide +kernel
theorem dX8_pair_11 : decode cX8_pair 11 = .ok (.ldc2_w 187, 3) := by decide +kernel
theorem dX8_pair_14 : decode cX8_pair 14 = .ok (.invokestatic 44, 3) := by decide +kernel
theorem dX8_pair_17 : decode cX8_pair 17 = .ok (.ifCond .ne 5, 3) := by decide +kernel
theorem dX8_pair_20 : decode cX8_pair 20 = .ok (.iconst (-1), 1) := by decide +kernel
theorem dX8_pair_21 : decode cX8_pair 21 = .ok (.ireturn, 1) := by decide +kernel
theorem dX8_pair_22 : decode cX8_pair 22 = .ok (.bipush (-4), 2) := by decide +kernel
theorem dX8_pair_24 : decode cX8_pair 24 = .ok (.istore_n 3, 1) := by decide +kernel
theorem dX8_pair_25 : decode cX8_pair 25 = .ok (.ldc 206, 2) := by decide +kernel
theorem dX8_pair_27 : decode cX8_pair 27 = .ok (.istore 4, 2) := by decide +kernel
theorem dX8_pair_29 : decode cX8_pair 29 = .ok (.ldc 206, 2) := by decide +kernel
theorem dX8_pair_31 : decode cX8_pair 31 = .ok (.istore 5, 2) := by decide +kernel
theorem dX8_pair_33 : decode cX8_pair 33 = .ok (.iconst 0, 1) := by decide +kernel
theorem dX8_pair_34 : decode cX8_pair 34 = .ok (.istore 6, 2) := by decide +kernel
theorem dX8_pair_36 : decode cX8_pair 36 = .ok (.iload 6, 2) := by decide +kernel
theorem dX8_pair_38 : decode cX8_pair 38 = .ok (.bipush 45, 2) := by decide +kernel
theorem dX8_pair_40 : decode cX8_pair 40 = .ok (.if_icmp .ge 279, 3) := by decide +kernel
theorem dX8_pair_43 : decode cX8_pair 43 = .ok (.iload 6, 2) := by decide +kernel
theorem dX8_pair_45 : decode cX8_pair 45 = .ok (.bipush 10, 2) := by decide +kernel
theorem dX8_pair_47 : decode cX8_pair 47 = .ok (.idiv, 1) := by decide +kernel
theorem dX8_pair_48 : decode cX8_pair 48 = .ok (.istore 7, 2) := by decide +kernel
theorem dX8_pair_50 : decode cX8_pair 50 = .ok (.iload 6, 2) := by decide +kernel
theorem dX8_pair_52 : decode cX8_pair 52 = .ok (.bipush 10, 2) := by decide +kernel
theorem dX8_pair_54 : decode cX8_pair 54 = .ok (.irem, 1) := by decide +kernel
theorem dX8_pair_55 : decode cX8_pair 55 = .ok (.istore 8, 2) := by decide +kernel
theorem dX8_pair_57 : decode cX8_pair 57 = .ok (.iload 7, 2) := by decide +kernel
theorem dX8_pair_59 : decode cX8_pair 59 = .ok (.aload_n 0, 1) := by decide +kernel
theorem dX8_pair_60 : decode cX8_pair 60 = .ok (.getfield 7, 3) := by decide +kernel
theorem dX8_pair_63 : decode cX8_pair 63 = .ok (.iconst 1, 1) := by decide +kernel
theorem dX8_pair_64 : decode cX8_pair 64 = .ok (.iaload, 1) := by decide +kernel
theorem dX8_pair_65 : decode cX8_pair 65 = .ok (.if_icmp .ge 25, 3) := by decide +kernel
theorem dX8_pair_68 : decode cX8_pair 68 = .ok (.iload 8, 2) := by decide +kernel
theorem dX8_pair_70 : decode cX8_pair 70 = .ok (.aload_n 0, 1) := by decide +kernel
theorem dX8_pair_71 : decode cX8_pair 71 = .ok (.getfield 7, 3) := by decide +kernel
theorem dX8_pair_74 : decode cX8_pair 74 = .ok (.iconst 1, 1) := by decide +kernel
theorem dX8_pair_75 : decode cX8_pair 75 = .ok (.iaload, 1) := by decide +kernel
theorem dX8_pair_76 : decode cX8_pair 76 = .ok (.if_icmp .ge 14, 3) := by decide +kernel
theorem dX8_pair_79 : decode cX8_pair 79 = .ok (.iload 7, 2) := by decide +kernel
theorem dX8_pair_81 : decode cX8_pair 81 = .ok (.iload 8, 2) := by decide +kernel
theorem dX8_pair_83 : decode cX8_pair 83 = .ok (.if_icmp .eq 7, 3) := by decide +kernel
theorem dX8_pair_86 : decode cX8_pair 86 = .ok (.iconst 1, 1) := by decide +kernel
theorem dX8_pair_87 : decode cX8_pair 87 = .ok (.goto 4, 3) := by decide +kernel
theorem dX8_pair_90 : decode cX8_pair 90 = .ok (.iconst 0, 1) := by decide +kernel
theorem dX8_pair_91 : decode cX8_pair 91 = .ok (.istore 9, 2) := by decide +kernel
theorem dX8_pair_93 : decode cX8_pair 93 = .ok (.iconst 0, 1) := by decide +kernel
theorem dX8_pair_94 : decode cX8_pair 94 = .ok (.istore 10, 2) := by decide +kernel
theorem dX8_pair_96 : decode cX8_pair 96 = .ok (.iload 10, 2) := by decide +kernel
theorem dX8_pair_98 : decode cX8_pair 98 = .ok (.bipush 60, 2) := by decide +kernel
theorem dX8_pair_100 : decode cX8_pair 100 = .ok (.if_icmp .gt 213, 3) := by decide +kernel
theorem dX8_pair_103 : decode cX8_pair 103 = .ok (.iload 9, 2) := by decide +kernel
theorem dX8_pair_105 : decode cX8_pair 105 = .ok (.ifCond .eq 208, 3) := by decide +kernel
theorem dX8_pair_108 : decode cX8_pair 108 = .ok (.aload_n 0, 1) := by decide +kernel
theorem dX8_pair_109 : decode cX8_pair 109 = .ok (.invokevirtual 180, 3) := by decide +kernel
theorem dX8_pair_112 : decode cX8_pair 112 = .ok (.iconst 0, 1) := by decide +kernel
theorem dX8_pair_113 : decode cX8_pair 113 = .ok (.istore 11, 2) := by decide +kernel
theorem dX8_pair_115 : decode cX8_pair 115 = .ok (.iload 11, 2) := by decide +kernel
theorem dX8_pair_117 : decode cX8_pair 117 = .ok (.iload 10, 2) := by decide +kernel
theorem dX8_pair_119 : decode cX8_pair 119 = .ok (.if_icmp .ge 32, 3) := by decide +kernel
theorem dX8_pair_122 : decode cX8_pair 122 = .ok (.aload_n 0, 1) := by decide +kernel
theorem dX8_pair_123 : decode cX8_pair 123 = .ok (.sipush 586, 3) := by decide +kernel
theorem dX8_pair_126 : decode cX8_pair 126 = .ok (.iload 7, 2) := by decide +kernel
theorem dX8_pair_128 : decode cX8_pair 128 = .ok (.iload_n 1, 1) := by decide +kernel
theorem dX8_pair_129 : decode cX8_pair 129 = .ok (.invokevirtual 157, 3) := by decide +kernel
theorem dX8_pair_132 : decode cX8_pair 132 = .ok (.ifCond .eq 19, 3) := by decide +kernel
theorem dX8_pair_135 : decode cX8_pair 135 = .ok (.aload_n 0, 1) := by decide +kernel
theorem dX8_pair_136 : decode cX8_pair 136 = .ok (.sipush 586, 3) := by decide +kernel
theorem dX8_pair_139 : decode cX8_pair 139 = .ok (.iload 7, 2) := by decide +kernel
theorem dX8_pair_141 : decode cX8_pair 141 = .ok (.iload_n 1, 1) := by decide +kernel
theorem dX8_pair_142 : decode cX8_pair 142 = .ok (.invokevirtual 161, 3) := by decide +kernel
theorem dX8_pair_145 : decode cX8_pair 145 = .ok (.iinc 11 1, 3) := by decide +kernel
theorem dX8_pair_148 : decode cX8_pair 148 = .ok (.goto (-33), 3) := by decide +kernel
theorem dX8_pair_151 : decode cX8_pair 151 = .ok (.iload 11, 2) := by decide +kernel
theorem dX8_pair_153 : decode cX8_pair 153 = .ok (.iload 10, 2) := by decide +kernel
theorem dX8_pair_155 : decode cX8_pair 155 = .ok (.if_icmp .ne 7, 3) := by decide +kernel
theorem dX8_pair_158 : decode cX8_pair 158 = .ok (.iconst 1, 1) := by decide +kernel
theorem dX8_pair_159 : decode cX8_pair 159 = .ok (.goto 4, 3) := by decide +kernel
theorem dX8_pair_162 : decode cX8_pair 162 = .ok (.iconst 0, 1) := by decide +kernel
theorem dX8_pair_163 : decode cX8_pair 163 = .ok (.istore 9, 2) := by decide +kernel
theorem dX8_pair_165 : decode cX8_pair 165 = .ok (.iload 9, 2) := by decide +kernel
theorem dX8_pair_167 : decode cX8_pair 167 = .ok (.ifCond .eq 39, 3) := by decide +kernel
theorem dX8_pair_170 : decode cX8_pair 170 = .ok (.iload 11, 2) := by decide +kernel
theorem dX8_pair_172 : decode cX8_pair 172 = .ok (.bipush 60, 2) := by decide +kernel
theorem dX8_pair_174 : decode cX8_pair 174 = .ok (.if_icmp .ge 32, 3) := by decide +kernel
theorem dX8_pair_177 : decode cX8_pair 177 = .ok (.aload_n 0, 1) := by decide +kernel
theorem dX8_pair_178 : decode cX8_pair 178 = .ok (.sipush 586, 3) := by decide +kernel
theorem dX8_pair_181 : decode cX8_pair 181 = .ok (.iload 8, 2) := by decide +kernel
theorem dX8_pair_183 : decode cX8_pair 183 = .ok (.iload_n 1, 1) := by decide +kernel
theorem dX8_pair_184 : decode cX8_pair 184 = .ok (.invokevirtual 157, 3) := by decide +kernel
theorem dX8_pair_187 : decode cX8_pair 187 = .ok (.ifCond .eq 19, 3) := by decide +kernel
theorem dX8_pair_190 : decode cX8_pair 190 = .ok (.aload_n 0, 1) := by decide +kernel
theorem dX8_pair_191 : decode cX8_pair 191 = .ok (.sipush 586, 3) := by decide +kernel
theorem dX8_pair_194 : decode cX8_pair 194 = .ok (.iload 8, 2) := by decide +kernel
theorem dX8_pair_196 : decode cX8_pair 196 = .ok (.iload_n 1, 1) := by decide +kernel
theorem dX8_pair_197 : decode cX8_pair 197 = .ok (.invokevirtual 161, 3) := by decide +kernel
theorem dX8_pair_200 : decode cX8_pair 200 = .ok (.iinc 11 1, 3) := by decide +kernel
theorem dX8_pair_203 : decode cX8_pair 203 = .ok (.goto (-38), 3) := by decide +kernel
theorem dX8_pair_206 : decode cX8_pair 206 = .ok (.aload_n 0, 1) := by decide +kernel
theorem dX8_pair_207 : decode cX8_pair 207 = .ok (.getfield 7, 3) := by decide +kernel
theorem dX8_pair_210 : decode cX8_pair 210 = .ok (.sipush 590, 3) := by decide +kernel
theorem dX8_pair_213 : decode cX8_pair 213 = .ok (.iaload, 1) := by decide +kernel
theorem dX8_pair_214 : decode cX8_pair 214 = .ok (.aload_n 0, 1) := by decide +kernel
theorem dX8_pair_215 : decode cX8_pair 215 = .ok (.getfield 7, 3) := by decide +kernel
theorem dX8_pair_218 : decode cX8_pair 218 = .ok (.iconst 4, 1) := by decide +kernel
theorem dX8_pair_219 : decode cX8_pair 219 = .ok (.iaload, 1) := by decide +kernel
theorem dX8_pair_220 : decode cX8_pair 220 = .ok (.isub, 1) := by decide +kernel
theorem dX8_pair_221 : decode cX8_pair 221 = .ok (.istore 12, 2) := by decide +kernel
theorem dX8_pair_223 : decode cX8_pair 223 = .ok (.iload 9, 2) := by decide +kernel
theorem dX8_pair_225 : decode cX8_pair 225 = .ok (.ifCond .eq 39, 3) := by decide +kernel
theorem dX8_pair_228 : decode cX8_pair 228 = .ok (.aload_n 0, 1) := by decide +kernel
theorem dX8_pair_229 : decode cX8_pair 229 = .ok (.sipush 586, 3) := by decide +kernel
theorem dX8_pair_232 : decode cX8_pair 232 = .ok (.iload_n 1, 1) := by decide +kernel
theorem dX8_pair_233 : decode cX8_pair 233 = .ok (.invokevirtual 67, 3) := by decide +kernel
theorem dX8_pair_236 : decode cX8_pair 236 = .ok (.ifCond .eq 28, 3) := by decide +kernel
theorem dX8_pair_239 : decode cX8_pair 239 = .ok (.iload 12, 2) := by decide +kernel
theorem dX8_pair_241 : decode cX8_pair 241 = .ok (.iload 4, 2) := by decide +kernel
theorem dX8_pair_243 : decode cX8_pair 243 = .ok (.if_icmp .lt 17, 3) := by decide +kernel
theorem dX8_pair_246 : decode cX8_pair 246 = .ok (.iload 12, 2) := by decide +kernel
theorem dX8_pair_248 : decode cX8_pair 248 = .ok (.iload 4, 2) := by decide +kernel
theorem dX8_pair_250 : decode cX8_pair 250 = .ok (.if_icmp .ne 14, 3) := by decide +kernel
theorem dX8_pair_253 : decode cX8_pair 253 = .ok (.iload 10, 2) := by decide +kernel
theorem dX8_pair_255 : decode cX8_pair 255 = .ok (.iload 5, 2) := by decide +kernel
theorem dX8_pair_257 : decode cX8_pair 257 = .ok (.if_icmp .ge 7, 3) := by decide +kernel
theorem dX8_pair_260 : decode cX8_pair 260 = .ok (.iconst 1, 1) := by decide +kernel
theorem dX8_pair_261 : decode cX8_pair 261 = .ok (.goto 4, 3) := by decide +kernel
theorem dX8_pair_264 : decode cX8_pair 264 = .ok (.iconst 0, 1) := by decide +kernel
theorem dX8_pair_265 : decode cX8_pair 265 = .ok (.istore 13, 2) := by decide +kernel
theorem dX8_pair_267 : decode cX8_pair 267 = .ok (.iload 13, 2) := by decide +kernel
theorem dX8_pair_269 : decode cX8_pair 269 = .ok (.ifCond .eq 8, 3) := by decide +kernel
theorem dX8_pair_272 : decode cX8_pair 272 = .ok (.iload 6, 2) := by decide +kernel
theorem dX8_pair_274 : decode cX8_pair 274 = .ok (.goto 4, 3) := by decide +kernel
theorem dX8_pair_277 : decode cX8_pair 277 = .ok (.iload_n 3, 1) := by decide +kernel
theorem dX8_pair_278 : decode cX8_pair 278 = .ok (.istore_n 3, 1) := by decide +kernel
theorem dX8_pair_279 : decode cX8_pair 279 = .ok (.iload 13, 2) := by decide +kernel
theorem dX8_pair_281 : decode cX8_pair 281 = .ok (.ifCond .eq 8, 3) := by decide +kernel
theorem dX8_pair_284 : decode cX8_pair 284 = .ok (.iload 10, 2) := by decide +kernel
theorem dX8_pair_286 : decode cX8_pair 286 = .ok (.goto 5, 3) := by decide +kernel
theorem dX8_pair_289 : decode cX8_pair 289 = .ok (.iload 5, 2) := by decide +kernel
theorem dX8_pair_291 : decode cX8_pair 291 = .ok (.istore 5, 2) := by decide +kernel
theorem dX8_pair_293 : decode cX8_pair 293 = .ok (.iload 13, 2) := by decide +kernel
theorem dX8_pair_295 : decode cX8_pair 295 = .ok (.ifCond .eq 8, 3) := by decide +kernel
theorem dX8_pair_298 : decode cX8_pair 298 = .ok (.iload 12, 2) := by decide +kernel
theorem dX8_pair_300 : decode cX8_pair 300 = .ok (.goto 5, 3) := by decide +kernel
theorem dX8_pair_303 : decode cX8_pair 303 = .ok (.iload 4, 2) := by decide +kernel
theorem dX8_pair_305 : decode cX8_pair 305 = .ok (.istore 4, 2) := by decide +kernel
theorem dX8_pair_307 : decode cX8_pair 307 = .ok (.iinc 10 1, 3) := by decide +kernel
theorem dX8_pair_310 : decode cX8_pair 310 = .ok (.goto (-214), 3) := by decide +kernel
theorem dX8_pair_313 : decode cX8_pair 313 = .ok (.iinc 6 1, 3) := by decide +kernel
theorem dX8_pair_316 : decode cX8_pair 316 = .ok (.goto (-280), 3) := by decide +kernel
theorem dX8_pair_319 : decode cX8_pair 319 = .ok (.iload_n 3, 1) := by decide +kernel
theorem dX8_pair_320 : decode cX8_pair 320 = .ok (.bipush (-4), 2) := by decide +kernel
theorem dX8_pair_322 : decode cX8_pair 322 = .ok (.if_icmp .ne 8, 3) := by decide +kernel
theorem dX8_pair_325 : decode cX8_pair 325 = .ok (.bipush (-4), 2) := by decide +kernel
theorem dX8_pair_327 : decode cX8_pair 327 = .ok (.goto 23, 3) := by decide +kernel
theorem dX8_pair_330 : decode cX8_pair 330 = .ok (.iload_n 2, 1) := by decide +kernel
theorem dX8_pair_331 : decode cX8_pair 331 = .ok (.ifCond .ne 8, 3) := by decide +kernel
theorem dX8_pair_334 : decode cX8_pair 334 = .ok (.iload 4, 2) := by decide +kernel
theorem dX8_pair_336 : decode cX8_pair 336 = .ok (.goto 14, 3) := by decide +kernel
theorem dX8_pair_339 : decode cX8_pair 339 = .ok (.iload_n 2, 1) := by decide +kernel
theorem dX8_pair_340 : decode cX8_pair 340 = .ok (.iconst 1, 1) := by decide +kernel
theorem dX8_pair_341 : decode cX8_pair 341 = .ok (.if_icmp .ne 7, 3) := by decide +kernel
theorem dX8_pair_344 : decode cX8_pair 344 = .ok (.iload_n 3, 1) := by decide +kernel
theorem dX8_pair_345 : decode cX8_pair 345 = .ok (.goto 5, 3) := by decide +kernel
theorem dX8_pair_348 : decode cX8_pair 348 = .ok (.iload 5, 2) := by decide +kernel
theorem dX8_pair_350 : decode cX8_pair 350 = .ok (.ireturn, 1) := by decide +kernel
set_option maxRecDepth 20000 in
theorem ggX8_small_X8_isMonk : GoodIn wsX8_small wsX8_isMonk := goodIn_r _ [6, 1, 7, 8, 5, 9, 50, 51, 52, 53, 54, 55, 56, 57, 58, 59, 60, 61, 62, 63, 64] (by decide +kernel) (by decide +kernel)
set_option maxRecDepth 20000 in
theorem gX8_small_X8_isMonk : GoodIn wsX8_small (wsV RX8 78 RX8 yX8_isMonk wsX8_isMonk) := goodIn_app (goodIn_of _ (by decide +kernel)) ggX8_small_X8_isMonk
set_option maxRecDepth 20000 in
theorem ggX8_small_X8_isMark : GoodIn wsX8_small wsX8_isMark := goodIn_r _ [13, 1, 7, 8, 5, 9, 50, 51, 52, 53, 54, 55, 56, 57, 58, 59, 60, 61, 62, 63, 64] (by decide +kernel) (by decide +kernel)
set_option maxRecDepth 20000 in
theorem gX8_small_X8_isMark : GoodIn wsX8_small (wsV RX8 63 RX8 yX8_isMark wsX8_isMark) := goodIn_app (goodIn_of _ (by decide +kernel)) ggX8_small_X8_isMark
set_option maxRecDepth 20000 in
theorem ggX8_small_X8_tries : GoodIn wsX8_small wsX8_tries := goodIn_r _ [17, 18, 19, 20, 5, 21, 1, 50, 51, 52, 53, 54, 55, 56, 57, 58, 59, 60, 61, 62, 63, 64] (by decide +kernel) (by decide +kernel)
set_option maxRecDepth 20000 in
theorem gX8_small_X8_tries : GoodIn wsX8_small (wsV RX8 180 RX8 yX8_tries wsX8_tries) := goodIn_app (goodIn_of _ (by decide +kernel)) ggX8_small_X8_tries
set_option maxRecDepth 20000 in
theorem ggX8_small_X8_canRub : GoodIn wsX8_small wsX8_canRub := goodIn_r _ [25, 1, 26, 27, 28, 5, 29, 30, 31, 32, 33, 50, 51, 52, 53, 54, 55, 56, 57, 58, 59, 60, 61, 62, 63, 64] (by decide +kernel) (by decide +kernel)
set_option maxRecDepth 20000 in
theorem gX8_small_X8_canRub : GoodIn wsX8_small (wsV RX8 157 RX8 yX8_canRub wsX8_canRub) := goodIn_app (goodIn_of _ (by decide +kernel)) ggX8_small_X8_canRub
set_option maxRecDepth 20000 in
theorem ggX8_small_X8_rubs : GoodIn wsX8_small wsX8_rubs := goodIn_r _ [37, 1, 38, 39, 5, 40, 41, 42, 43, 44, 45, 46, 47, 48, 49, 26, 27, 28, 29, 50, 51, 52, 53, 54, 55, 56, 57, 58, 59, 60, 61, 62, 63, 64] (by decide +kernel) (by decide +kernel)
set_option maxRecDepth 20000 in
theorem gX8_small_X8_rubs : GoodIn wsX8_small (wsV RX8 161 RX8 yX8_rubs wsX8_rubs) := goodIn_app (goodIn_of _ (by decide +kernel)) ggX8_small_X8_rubs
set_option maxRecDepth 20000 in
theorem ggX8_small_X8_isGone : GoodIn wsX8_small wsX8_isGone := goodIn_r _ [33, 1, 50, 51, 52, 53, 54, 55, 56, 57, 58, 59, 60, 61, 62, 63, 64] (by decide +kernel) (by decide +kernel)
set_option maxRecDepth 20000 in
theorem gX8_small_X8_isGone : GoodIn wsX8_small (wsV RX8 67 RX8 yX8_isGone wsX8_isGone) := goodIn_app (goodIn_of _ (by decide +kernel)) ggX8_small_X8_isGone
theorem dX8_small_0 : decode cX8_small 0 = .ok (.aload_n 0, 1) := by decide +kernel
theorem dX8_small_1 : decode cX8_small 1 = .ok (.iload_n 1, 1) := by decide +kernel
theorem dX8_small_2 : decode cX8_small 2 = .ok (.invokevirtual 78, 3) := by decide +kernel
theorem dX8_small_5 : decode cX8_small 5 = .ok (.ifCond .eq 11, 3) := by decide +kernel
theorem dX8_small_8 : decode cX8_small 8 = .ok (.aload_n 0, 1) := by decide +kernel
theorem dX8_small_9 : decode cX8_small 9 = .ok (.iload_n 2, 1) := by decide +kernel
theorem dX8_small_10 : decode cX8_small 10 = .ok (.invokevirtual 63, 3) := by decide +kernel
theorem dX8_small_13 : decode cX8_small 13 = .ok (.ifCond .ne 5, 3) := by decide +kernel
theorem dX8_small_16 : decode cX8_small 16 = .ok (.iconst (-1), 1) := by decide +kernel
theorem dX8_small_17 : decode cX8_small 17 = .ok (.ireturn, 1) := by decide +kernel
theorem dX8_small_18 : decode cX8_small 18 = .ok (.iconst 0, 1) := by decide +kernel
theorem dX8_small_19 : decode cX8_small 19 = .ok (.istore_n 3, 1) := by decide +kernel
theorem dX8_small_20 : decode cX8_small 20 = .ok (.iload_n 3, 1) := by decide +kernel
theorem dX8_small_21 : decode cX8_small 21 = .ok (.bipush 100, 2) := by decide +kernel
theorem dX8_small_23 : decode cX8_small 23 = .ok (.if_icmp .ge 61, 3) := by decide +kernel
theorem dX8_small_26 : decode cX8_small 26 = .ok (.aload_n 0, 1) := by decide +kernel
theorem dX8_small_27 : decode cX8_small 27 = .ok (.invokevirtual 180, 3) := by decide +kernel
theorem dX8_small_30 : decode cX8_small 30 = .ok (.aload_n 0, 1) := by decide +kernel
theorem dX8_small_31 : decode cX8_small 31 = .ok (.getfield 7, 3) := by decide +kernel
theorem dX8_small_34 : decode cX8_small 34 = .ok (.sipush 609, 3) := by decide +kernel
theorem dX8_small_37 : decode cX8_small 37 = .ok (.iload_n 1, 1) := by decide +kernel
theorem dX8_small_38 : decode cX8_small 38 = .ok (.iadd, 1) := by decide +kernel
theorem dX8_small_39 : decode cX8_small 39 = .ok (.iload_n 3, 1) := by decide +kernel
theorem dX8_small_40 : decode cX8_small 40 = .ok (.iastore, 1) := by decide +kernel
theorem dX8_small_41 : decode cX8_small 41 = .ok (.aload_n 0, 1) := by decide +kernel
theorem dX8_small_42 : decode cX8_small 42 = .ok (.sipush 586, 3) := by decide +kernel
theorem dX8_small_45 : decode cX8_small 45 = .ok (.iload_n 1, 1) := by decide +kernel
theorem dX8_small_46 : decode cX8_small 46 = .ok (.iload_n 2, 1) := by decide +kernel
theorem dX8_small_47 : decode cX8_small 47 = .ok (.invokevirtual 157, 3) := by decide +kernel
theorem dX8_small_50 : decode cX8_small 50 = .ok (.ifCond .eq 15, 3) := by decide +kernel
theorem dX8_small_53 : decode cX8_small 53 = .ok (.aload_n 0, 1) := by decide +kernel
theorem dX8_small_54 : decode cX8_small 54 = .ok (.sipush 586, 3) := by decide +kernel
theorem dX8_small_57 : decode cX8_small 57 = .ok (.iload_n 1, 1) := by decide +kernel
theorem dX8_small_58 : decode cX8_small 58 = .ok (.iload_n 2, 1) := by decide +kernel
theorem dX8_small_59 : decode cX8_small 59 = .ok (.invokevirtual 161, 3) := by decide +kernel
theorem dX8_small_62 : decode cX8_small 62 = .ok (.goto (-21), 3) := by decide +kernel
theorem dX8_small_65 : decode cX8_small 65 = .ok (.aload_n 0, 1) := by decide +kernel
theorem dX8_small_66 : decode cX8_small 66 = .ok (.sipush 586, 3) := by decide +kernel
theorem dX8_small_69 : decode cX8_small 69 = .ok (.iload_n 2, 1) := by decide +kernel
theorem dX8_small_70 : decode cX8_small 70 = .ok (.invokevirtual 67, 3) := by decide +kernel
theorem dX8_small_73 : decode cX8_small 73 = .ok (.ifCond .eq 5, 3) := by decide +kernel
theorem dX8_small_76 : decode cX8_small 76 = .ok (.iload_n 3, 1) := by decide +kernel
theorem dX8_small_77 : decode cX8_small 77 = .ok (.ireturn, 1) := by decide +kernel
theorem dX8_small_78 : decode cX8_small 78 = .ok (.iinc 3 1, 3) := by decide +kernel
theorem dX8_small_81 : decode cX8_small 81 = .ok (.goto (-61), 3) := by decide +kernel
theorem dX8_small_84 : decode cX8_small 84 = .ok (.bipush (-4), 2) := by decide +kernel
theorem dX8_small_86 : decode cX8_small 86 = .ok (.ireturn, 1) := by decide +kernel
set_option maxRecDepth 20000 in
theorem ggX8_slip_X8_in : GoodIn wsX8_slip wsX8_in := goodIn_r _ [7] (by decide +kernel) (by decide +kernel)
set_option maxRecDepth 20000 in
theorem gX8_slip_X8_in : GoodIn wsX8_slip (va_wsS RX8 44 yX8_in wsX8_in) := goodIn_app (goodIn_of _ (by decide +kernel)) ggX8_slip_X8_in
set_option maxRecDepth 20000 in
theorem ggX8_slip_X8_has : GoodIn wsX8_slip wsX8_has := goodIn_r _ [10] (by decide +kernel) (by decide +kernel)
set_option maxRecDepth 20000 in
theorem gX8_slip_X8_has : GoodIn wsX8_slip (va_wsS RX8 154 yX8_has wsX8_has) := goodIn_app (goodIn_of _ (by decide +kernel)) ggX8_slip_X8_has
set_option maxRecDepth 20000 in
theorem ggX8_slip_X8_tries : GoodIn wsX8_slip wsX8_tries := goodIn_r _ [14, 15, 16, 17, 6, 18, 3, 58, 59, 60, 61, 62, 63, 64, 65, 66, 67, 68, 69, 70, 71, 72] (by decide +kernel) (by decide +kernel)
set_option maxRecDepth 20000 in
theorem gX8_slip_X8_tries : GoodIn wsX8_slip (wsV RX8 180 RX8 yX8_tries wsX8_tries) := goodIn_app (goodIn_of _ (by decide +kernel)) ggX8_slip_X8_tries
set_option maxRecDepth 20000 in
theorem ggX8_slip_X8_passes : GoodIn wsX8_slip wsX8_passes := goodIn_r _ [22, 3, 8, 9, 6, 10, 23, 24, 25, 26, 27, 28, 29, 30, 31, 32, 33, 34, 35, 36, 37, 38, 39, 40, 41, 42, 43, 44, 45, 46, 47, 48, 49, 50, 58, 59, 60, 61, 62, 63, 64, 65, 66, 67, 68, 69, 70, 71, 72] (by decide +kernel) (by decide +kernel)
set_option maxRecDepth 20000 in
theorem gX8_slip_X8_passes : GoodIn wsX8_slip (wsV RX8 169 RX8 yX8_passes wsX8_passes) := goodIn_app (goodIn_of _ (by decide +kernel)) ggX8_slip_X8_passes
set_option maxRecDepth 20000 in
theorem ggX8_slip_X8_goneOnes : GoodIn wsX8_slip wsX8_goneOnes := goodIn_r _ [54, 3, 31, 32, 33, 6, 34, 58, 59, 60, 61, 62, 63, 64, 65, 66, 67, 68, 69, 70, 71, 72] (by decide +kernel) (by decide +kernel)
set_option maxRecDepth 20000 in
theorem gX8_slip_X8_goneOnes : GoodIn wsX8_slip (wsV RX8 132 RX8 yX8_goneOnes wsX8_goneOnes) := goodIn_app (goodIn_of _ (by decide +kernel)) ggX8_slip_X8_goneOnes
set_option maxRecDepth 20000 in
theorem ggX8_slip_X8_ones : GoodIn wsX8_slip wsX8_ones := goodIn_r _ [57] (by decide +kernel) (by decide +kernel)
set_option maxRecDepth 20000 in
theorem gX8_slip_X8_ones : GoodIn wsX8_slip (va_wsS RX8 191 yX8_ones wsX8_ones) := goodIn_app (goodIn_of _ (by decide +kernel)) ggX8_slip_X8_ones
theorem dX8_slip_0 : decode cX8_slip 0 = .ok (.iload_n 1, 1) := by decide +kernel
theorem dX8_slip_1 : decode cX8_slip 1 = .ok (.i2l, 1) := by decide +kernel
theorem dX8_slip_2 : decode cX8_slip 2 = .ok (.lconst 0, 1) := by decide +kernel
theorem dX8_slip_3 : decode cX8_slip 3 = .ok (.ldc2_w 207, 3) := by decide +kernel
theorem dX8_slip_6 : decode cX8_slip 6 = .ok (.invokestatic 44, 3) := by decide +kernel
theorem dX8_slip_9 : decode cX8_slip 9 = .ok (.ifCond .eq 25, 3) := by decide +kernel
theorem dX8_slip_12 : decode cX8_slip 12 = .ok (.iload_n 2, 1) := by decide +kernel
theorem dX8_slip_13 : decode cX8_slip 13 = .ok (.i2l, 1) := by decide +kernel
theorem dX8_slip_14 : decode cX8_slip 14 = .ok (.lconst 0, 1) := by decide +kernel
theorem dX8_slip_15 : decode cX8_slip 15 = .ok (.ldc2_w 209, 3) := by decide +kernel
theorem dX8_slip_18 : decode cX8_slip 18 = .ok (.invokestatic 44, 3) := by decide +kernel
theorem dX8_slip_21 : decode cX8_slip 21 = .ok (.ifCond .eq 13, 3) := by decide +kernel
theorem dX8_slip_24 : decode cX8_slip 24 = .ok (.iload_n 3, 1) := by decide +kernel
theorem dX8_slip_25 : decode cX8_slip 25 = .ok (.i2l, 1) := by decide +kernel
theorem dX8_slip_26 : decode cX8_slip 26 = .ok (.lconst 0, 1) := by decide +kernel
theorem dX8_slip_27 : decode cX8_slip 27 = .ok (.lconst 1, 1) := by decide +kernel
theorem dX8_slip_28 : decode cX8_slip 28 = .ok (.invokestatic 44, 3) := by decide +kernel
theorem dX8_slip_31 : decode cX8_slip 31 = .ok (.ifCond .ne 5, 3) := by decide +kernel
theorem dX8_slip_34 : decode cX8_slip 34 = .ok (.iconst (-1), 1) := by decide +kernel
theorem dX8_slip_35 : decode cX8_slip 35 = .ok (.ireturn, 1) := by decide +kernel
theorem dX8_slip_36 : decode cX8_slip 36 = .ok (.iconst 0, 1) := by decide +kernel
theorem dX8_slip_37 : decode cX8_slip 37 = .ok (.istore 4, 2) := by decide +kernel
theorem dX8_slip_39 : decode cX8_slip 39 = .ok (.iconst 1, 1) := by decide +kernel
theorem dX8_slip_40 : decode cX8_slip 40 = .ok (.istore 5, 2) := by decide +kernel
theorem dX8_slip_42 : decode cX8_slip 42 = .ok (.iconst 0, 1) := by decide +kernel
theorem dX8_slip_43 : decode cX8_slip 43 = .ok (.istore 6, 2) := by decide +kernel
theorem dX8_slip_45 : decode cX8_slip 45 = .ok (.iload 6, 2) := by decide +kernel
theorem dX8_slip_47 : decode cX8_slip 47 = .ok (.aload_n 0, 1) := by decide +kernel
theorem dX8_slip_48 : decode cX8_slip 48 = .ok (.getfield 7, 3) := by decide +kernel
theorem dX8_slip_51 : decode cX8_slip 51 = .ok (.iconst 1, 1) := by decide +kernel
theorem dX8_slip_52 : decode cX8_slip 52 = .ok (.iaload, 1) := by decide +kernel
theorem dX8_slip_53 : decode cX8_slip 53 = .ok (.if_icmp .ge 35, 3) := by decide +kernel
theorem dX8_slip_56 : decode cX8_slip 56 = .ok (.iload 5, 2) := by decide +kernel
theorem dX8_slip_58 : decode cX8_slip 58 = .ok (.aload_n 0, 1) := by decide +kernel
theorem dX8_slip_59 : decode cX8_slip 59 = .ok (.getfield 7, 3) := by decide +kernel
theorem dX8_slip_62 : decode cX8_slip 62 = .ok (.bipush 28, 2) := by decide +kernel
theorem dX8_slip_64 : decode cX8_slip 64 = .ok (.iload 6, 2) := by decide +kernel
theorem dX8_slip_66 : decode cX8_slip 66 = .ok (.iadd, 1) := by decide +kernel
theorem dX8_slip_67 : decode cX8_slip 67 = .ok (.iaload, 1) := by decide +kernel
theorem dX8_slip_68 : decode cX8_slip 68 = .ok (.bipush (-4), 2) := by decide +kernel
theorem dX8_slip_70 : decode cX8_slip 70 = .ok (.if_icmp .ne 7, 3) := by decide +kernel
theorem dX8_slip_73 : decode cX8_slip 73 = .ok (.iconst 1, 1) := by decide +kernel
theorem dX8_slip_74 : decode cX8_slip 74 = .ok (.goto 5, 3) := by decide +kernel
theorem dX8_slip_77 : decode cX8_slip 77 = .ok (.bipush 10, 2) := by decide +kernel
theorem dX8_slip_79 : decode cX8_slip 79 = .ok (.imul, 1) := by decide +kernel
theorem dX8_slip_80 : decode cX8_slip 80 = .ok (.istore 5, 2) := by decide +kernel
theorem dX8_slip_82 : decode cX8_slip 82 = .ok (.iinc 6 1, 3) := by decide +kernel
theorem dX8_slip_85 : decode cX8_slip 85 = .ok (.goto (-40), 3) := by decide +kernel
theorem dX8_slip_88 : decode cX8_slip 88 = .ok (.iconst 0, 1) := by decide +kernel
theorem dX8_slip_89 : decode cX8_slip 89 = .ok (.istore 6, 2) := by decide +kernel
theorem dX8_slip_91 : decode cX8_slip 91 = .ok (.iload 6, 2) := by decide +kernel
theorem dX8_slip_93 : decode cX8_slip 93 = .ok (.iconst 1, 1) := by decide +kernel
theorem dX8_slip_94 : decode cX8_slip 94 = .ok (.aload_n 0, 1) := by decide +kernel
theorem dX8_slip_95 : decode cX8_slip 95 = .ok (.getfield 7, 3) := by decide +kernel
theorem dX8_slip_98 : decode cX8_slip 98 = .ok (.iconst 1, 1) := by decide +kernel
theorem dX8_slip_99 : decode cX8_slip 99 = .ok (.iaload, 1) := by decide +kernel
theorem dX8_slip_100 : decode cX8_slip 100 = .ok (.ishl, 1) := by decide +kernel
theorem dX8_slip_101 : decode cX8_slip 101 = .ok (.if_icmp .ge 136, 3) := by decide +kernel
theorem dX8_slip_104 : decode cX8_slip 104 = .ok (.iconst 1, 1) := by decide +kernel
theorem dX8_slip_105 : decode cX8_slip 105 = .ok (.istore 7, 2) := by decide +kernel
theorem dX8_slip_107 : decode cX8_slip 107 = .ok (.iconst 0, 1) := by decide +kernel
theorem dX8_slip_108 : decode cX8_slip 108 = .ok (.istore 8, 2) := by decide +kernel
theorem dX8_slip_110 : decode cX8_slip 110 = .ok (.iload 8, 2) := by decide +kernel
theorem dX8_slip_112 : decode cX8_slip 112 = .ok (.aload_n 0, 1) := by decide +kernel
theorem dX8_slip_113 : decode cX8_slip 113 = .ok (.getfield 7, 3) := by decide +kernel
theorem dX8_slip_116 : decode cX8_slip 116 = .ok (.iconst 1, 1) := by decide +kernel
theorem dX8_slip_117 : decode cX8_slip 117 = .ok (.iaload, 1) := by decide +kernel
theorem dX8_slip_118 : decode cX8_slip 118 = .ok (.if_icmp .ge 70, 3) := by decide +kernel
theorem dX8_slip_121 : decode cX8_slip 121 = .ok (.aload_n 0, 1) := by decide +kernel
theorem dX8_slip_122 : decode cX8_slip 122 = .ok (.getfield 7, 3) := by decide +kernel
theorem dX8_slip_125 : decode cX8_slip 125 = .ok (.bipush 28, 2) := by decide +kernel
theorem dX8_slip_127 : decode cX8_slip 127 = .ok (.iload 8, 2) := by decide +kernel
theorem dX8_slip_129 : decode cX8_slip 129 = .ok (.iadd, 1) := by decide +kernel
theorem dX8_slip_130 : decode cX8_slip 130 = .ok (.iaload, 1) := by decide +kernel
theorem dX8_slip_131 : decode cX8_slip 131 = .ok (.bipush (-4), 2) := by decide +kernel
theorem dX8_slip_133 : decode cX8_slip 133 = .ok (.if_icmp .ne 26, 3) := by decide +kernel
theorem dX8_slip_136 : decode cX8_slip 136 = .ok (.iload 7, 2) := by decide +kernel
theorem dX8_slip_138 : decode cX8_slip 138 = .ok (.iload 6, 2) := by decide +kernel
theorem dX8_slip_140 : decode cX8_slip 140 = .ok (.iload 8, 2) := by decide +kernel
theorem dX8_slip_142 : decode cX8_slip 142 = .ok (.invokestatic 154, 3) := by decide +kernel
theorem dX8_slip_145 : decode cX8_slip 145 = .ok (.ifCond .eq 7, 3) := by decide +kernel
theorem dX8_slip_148 : decode cX8_slip 148 = .ok (.iconst 0, 1) := by decide +kernel
theorem dX8_slip_149 : decode cX8_slip 149 = .ok (.goto 4, 3) := by decide +kernel
theorem dX8_slip_152 : decode cX8_slip 152 = .ok (.iconst 1, 1) := by decide +kernel
theorem dX8_slip_153 : decode cX8_slip 153 = .ok (.imul, 1) := by decide +kernel
theorem dX8_slip_154 : decode cX8_slip 154 = .ok (.istore 7, 2) := by decide +kernel
theorem dX8_slip_156 : decode cX8_slip 156 = .ok (.goto 26, 3) := by decide +kernel
theorem dX8_slip_159 : decode cX8_slip 159 = .ok (.iload 7, 2) := by decide +kernel
theorem dX8_slip_161 : decode cX8_slip 161 = .ok (.iload 6, 2) := by decide +kernel
theorem dX8_slip_163 : decode cX8_slip 163 = .ok (.iload 8, 2) := by decide +kernel
theorem dX8_slip_165 : decode cX8_slip 165 = .ok (.invokestatic 154, 3) := by decide +kernel
theorem dX8_slip_168 : decode cX8_slip 168 = .ok (.ifCond .eq 7, 3) := by decide +kernel
theorem dX8_slip_171 : decode cX8_slip 171 = .ok (.iload_n 2, 1) := by decide +kernel
theorem dX8_slip_172 : decode cX8_slip 172 = .ok (.goto 7, 3) := by decide +kernel
theorem dX8_slip_175 : decode cX8_slip 175 = .ok (.bipush 10, 2) := by decide +kernel
theorem dX8_slip_177 : decode cX8_slip 177 = .ok (.iload_n 2, 1) := by decide +kernel
theorem dX8_slip_178 : decode cX8_slip 178 = .ok (.isub, 1) := by decide +kernel
theorem dX8_slip_179 : decode cX8_slip 179 = .ok (.imul, 1) := by decide +kernel
theorem dX8_slip_180 : decode cX8_slip 180 = .ok (.istore 7, 2) := by decide +kernel
theorem dX8_slip_182 : decode cX8_slip 182 = .ok (.iinc 8 1, 3) := by decide +kernel
theorem dX8_slip_185 : decode cX8_slip 185 = .ok (.goto (-75), 3) := by decide +kernel
theorem dX8_slip_188 : decode cX8_slip 188 = .ok (.iload 7, 2) := by decide +kernel
theorem dX8_slip_190 : decode cX8_slip 190 = .ok (.ifCond .le 41, 3) := by decide +kernel
theorem dX8_slip_193 : decode cX8_slip 193 = .ok (.aload_n 0, 1) := by decide +kernel
theorem dX8_slip_194 : decode cX8_slip 194 = .ok (.invokevirtual 180, 3) := by decide +kernel
theorem dX8_slip_197 : decode cX8_slip 197 = .ok (.aload_n 0, 1) := by decide +kernel
theorem dX8_slip_198 : decode cX8_slip 198 = .ok (.sipush 586, 3) := by decide +kernel
theorem dX8_slip_201 : decode cX8_slip 201 = .ok (.iload 6, 2) := by decide +kernel
theorem dX8_slip_203 : decode cX8_slip 203 = .ok (.invokevirtual 169, 3) := by decide +kernel
theorem dX8_slip_206 : decode cX8_slip 206 = .ok (.iload 4, 2) := by decide +kernel
theorem dX8_slip_208 : decode cX8_slip 208 = .ok (.aload_n 0, 1) := by decide +kernel
theorem dX8_slip_209 : decode cX8_slip 209 = .ok (.sipush 586, 3) := by decide +kernel
theorem dX8_slip_212 : decode cX8_slip 212 = .ok (.invokevirtual 132, 3) := by decide +kernel
theorem dX8_slip_215 : decode cX8_slip 215 = .ok (.invokestatic 191, 3) := by decide +kernel
theorem dX8_slip_218 : decode cX8_slip 218 = .ok (.iload_n 1, 1) := by decide +kernel
theorem dX8_slip_219 : decode cX8_slip 219 = .ok (.if_icmp .lt 8, 3) := by decide +kernel
theorem dX8_slip_222 : decode cX8_slip 222 = .ok (.iload 7, 2) := by decide +kernel
theorem dX8_slip_224 : decode cX8_slip 224 = .ok (.goto 4, 3) := by decide +kernel
theorem dX8_slip_227 : decode cX8_slip 227 = .ok (.iconst 0, 1) := by decide +kernel
theorem dX8_slip_228 : decode cX8_slip 228 = .ok (.iadd, 1) := by decide +kernel
theorem dX8_slip_229 : decode cX8_slip 229 = .ok (.istore 4, 2) := by decide +kernel
theorem dX8_slip_231 : decode cX8_slip 231 = .ok (.iinc 6 1, 3) := by decide +kernel
theorem dX8_slip_234 : decode cX8_slip 234 = .ok (.goto (-143), 3) := by decide +kernel
theorem dX8_slip_237 : decode cX8_slip 237 = .ok (.iload 4, 2) := by decide +kernel
theorem dX8_slip_239 : decode cX8_slip 239 = .ok (.istore 6, 2) := by decide +kernel
theorem dX8_slip_241 : decode cX8_slip 241 = .ok (.iload 5, 2) := by decide +kernel
theorem dX8_slip_243 : decode cX8_slip 243 = .ok (.istore 7, 2) := by decide +kernel
theorem dX8_slip_245 : decode cX8_slip 245 = .ok (.iload 7, 2) := by decide +kernel
theorem dX8_slip_247 : decode cX8_slip 247 = .ok (.ifCond .eq 21, 3) := by decide +kernel
theorem dX8_slip_250 : decode cX8_slip 250 = .ok (.iload 6, 2) := by decide +kernel
theorem dX8_slip_252 : decode cX8_slip 252 = .ok (.iload 7, 2) := by decide +kernel
theorem dX8_slip_254 : decode cX8_slip 254 = .ok (.irem, 1) := by decide +kernel
theorem dX8_slip_255 : decode cX8_slip 255 = .ok (.istore 8, 2) := by decide +kernel
theorem dX8_slip_257 : decode cX8_slip 257 = .ok (.iload 7, 2) := by decide +kernel
theorem dX8_slip_259 : decode cX8_slip 259 = .ok (.istore 6, 2) := by decide +kernel
theorem dX8_slip_261 : decode cX8_slip 261 = .ok (.iload 8, 2) := by decide +kernel
theorem dX8_slip_263 : decode cX8_slip 263 = .ok (.istore 7, 2) := by decide +kernel
theorem dX8_slip_265 : decode cX8_slip 265 = .ok (.goto (-20), 3) := by decide +kernel
theorem dX8_slip_268 : decode cX8_slip 268 = .ok (.iload_n 3, 1) := by decide +kernel
theorem dX8_slip_269 : decode cX8_slip 269 = .ok (.ifCond .ne 11, 3) := by decide +kernel
theorem dX8_slip_272 : decode cX8_slip 272 = .ok (.iload 4, 2) := by decide +kernel
theorem dX8_slip_274 : decode cX8_slip 274 = .ok (.iload 6, 2) := by decide +kernel
theorem dX8_slip_276 : decode cX8_slip 276 = .ok (.idiv, 1) := by decide +kernel
theorem dX8_slip_277 : decode cX8_slip 277 = .ok (.goto 8, 3) := by decide +kernel
theorem dX8_slip_280 : decode cX8_slip 280 = .ok (.iload 5, 2) := by decide +kernel
theorem dX8_slip_282 : decode cX8_slip 282 = .ok (.iload 6, 2) := by decide +kernel
theorem dX8_slip_284 : decode cX8_slip 284 = .ok (.idiv, 1) := by decide +kernel
theorem dX8_slip_285 : decode cX8_slip 285 = .ok (.ireturn, 1) := by decide +kernel
set_option maxRecDepth 20000 in
theorem ggX8_image_X8_bring : GoodIn wsX8_image wsX8_bring := goodIn_r _ [6, 7, 8, 9, 10, 11, 12, 13, 14, 15, 16, 17, 18, 19, 20, 21, 22] (by decide +kernel) (by decide +kernel)
