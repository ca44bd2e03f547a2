theorem dX7_count_88 : decode cX7_count 88 = .ok (.invokevirtual 153, 3) := by decide +kernel
theorem dX7_count_91 : decode cX7_count 91 = .ok (.ireturn, 1) := by decide +kernel
theorem dX7_count_92 : decode cX7_count 92 = .ok (.aload_n 0, 1) := by decide +kernel
theorem dX7_count_93 : decode cX7_count 93 = .ok (.getfield 10, 3) := by decide +kernel
theorem dX7_count_96 : decode cX7_count 96 = .ok (.invokevirtual 157, 3) := by decide +kernel
theorem dX7_count_99 : decode cX7_count 99 = .ok (.ireturn, 1) := by decide +kernel
theorem dX7_count_100 : decode cX7_count 100 = .ok (.aload_n 0, 1) := by decide +kernel
theorem dX7_count_101 : decode cX7_count 101 = .ok (.getfield 10, 3) := by decide +kernel
theorem dX7_count_104 : decode cX7_count 104 = .ok (.invokevirtual 160, 3) := by decide +kernel
theorem dX7_count_107 : decode cX7_count 107 = .ok (.ireturn, 1) := by decide +kernel
theorem dX7_count_108 : decode cX7_count 108 = .ok (.aload_n 0, 1) := by decide +kernel
theorem dX7_count_109 : decode cX7_count 109 = .ok (.getfield 10, 3) := by decide +kernel
theorem dX7_count_112 : decode cX7_count 112 = .ok (.invokevirtual 163, 3) := by decide +kernel
theorem dX7_count_115 : decode cX7_count 115 = .ok (.ireturn, 1) := by decide +kernel
theorem dX7_count_116 : decode cX7_count 116 = .ok (.aload_n 0, 1) := by decide +kernel
theorem dX7_count_117 : decode cX7_count 117 = .ok (.getfield 19, 3) := by decide +kernel
theorem dX7_count_120 : decode cX7_count 120 = .ok (.getfield 166, 3) := by decide +kernel
theorem dX7_count_123 : decode cX7_count 123 = .ok (.ireturn, 1) := by decide +kernel
theorem dX7_count_124 : decode cX7_count 124 = .ok (.iconst (-1), 1) := by decide +kernel
theorem dX7_count_125 : decode cX7_count 125 = .ok (.ireturn, 1) := by decide +kernel
set_option maxRecDepth 20000 in
theorem ggX7_days_X7_liveThrough : GoodIn wsX7_days wsX7_liveThrough := goodIn_r _ [5, 6, 7, 8, 9, 10, 4, 11, 12, 13, 14, 15, 16, 17, 18, 19, 20, 21, 22, 23, 24, 25, 26, 27, 28, 29, 30, 31, 32, 33, 34, 35, 36, 37, 38, 39, 40, 41, 42, 43, 44, 45, 46, 47, 48, 49, 50, 51, 52, 53, 54, 55, 56, 57, 58, 59, 60, 61, 62, 63, 64, 65, 66, 67, 68, 69, 70, 71, 72, 73, 74, 75, 76, 77, 78, 79, 80, 81, 82, 83, 84, 85, 86, 87, 88, 89, 90, 91, 92, 93, 94, 95, 96, 97, 98, 99, 100, 101, 102, 103, 104, 105, 106, 107, 108, 109, 110, 111, 112, 113, 114, 115, 116, 117, 118] (by decide +kernel) (by decide +kernel)
set_option maxRecDepth 20000 in
theorem gX7_days_X7_liveThrough : GoodIn wsX7_days (wsV RX7 167 RX7 yX7_liveThrough wsX7_liveThrough) := goodIn_app (goodIn_of _ (by decide +kernel)) ggX7_days_X7_liveThrough
theorem dX7_days_0 : decode cX7_days 0 = .ok (.aload_n 0, 1) := by decide +kernel
theorem dX7_days_1 : decode cX7_days 1 = .ok (.iload_n 1, 1) := by decide +kernel
theorem dX7_days_2 : decode cX7_days 2 = .ok (.iconst 0, 1) := by decide +kernel
theorem dX7_days_3 : decode cX7_days 3 = .ok (.invokevirtual 167, 3) := by decide +kernel
theorem dX7_days_6 : decode cX7_days 6 = .ok (.ireturn, 1) := by decide +kernel
set_option maxRecDepth 20000 in
theorem ggX7_send_X7_hasMonk : GoodIn wsX7_send wsX7_hasMonk := goodIn_r _ [8, 1, 9, 44, 45, 46, 47, 48, 49, 50, 51, 52, 53, 54, 55, 56, 57, 58, 59, 60, 61, 62, 63, 64, 65, 66, 67] (by decide +kernel) (by decide +kernel)
set_option maxRecDepth 20000 in
theorem gX7_send_X7_hasMonk : GoodIn wsX7_send (wsV RX7 118 RX7 yX7_hasMonk wsX7_hasMonk) := goodIn_app (goodIn_of _ (by decide +kernel)) ggX7_send_X7_hasMonk
set_option maxRecDepth 20000 in
theorem ggX7_send_X7_hasMark : GoodIn wsX7_send wsX7_hasMark := goodIn_r _ [13, 1, 14, 44, 45, 46, 47, 48, 49, 50, 51, 52, 53, 54, 55, 56, 57, 58, 59, 60, 61, 62, 63, 64, 65, 66, 67] (by decide +kernel) (by decide +kernel)
set_option maxRecDepth 20000 in
theorem gX7_send_X7_hasMark : GoodIn wsX7_send (wsV RX7 92 RX7 yX7_hasMark wsX7_hasMark) := goodIn_app (goodIn_of _ (by decide +kernel)) ggX7_send_X7_hasMark
set_option maxRecDepth 20000 in
theorem ggX7_send_X0_keep : GoodIn wsX7_send wsX0_keep := goodIn_r _ [19, 20, 21, 22, 23, 24, 25, 26, 27, 28, 29, 30, 31, 32, 33, 34, 35, 36, 37, 38, 39, 40, 41, 42, 43, 68, 69, 70, 56, 57, 58, 59, 60, 61, 62, 63, 64, 65, 66, 67] (by decide +kernel) (by decide +kernel)
set_option maxRecDepth 20000 in
theorem gX7_send_X0_keep : GoodIn wsX7_send (wsV RX7 171 RX0 yX0_keep wsX0_keep) := goodIn_app (goodIn_of _ (by decide +kernel)) ggX7_send_X0_keep
theorem dX7_send_0 : decode cX7_send 0 = .ok (.aload_n 0, 1) := by decide +kernel
theorem dX7_send_1 : decode cX7_send 1 = .ok (.iload_n 1, 1) := by decide +kernel
theorem dX7_send_2 : decode cX7_send 2 = .ok (.invokevirtual 118, 3) := by decide +kernel
theorem dX7_send_5 : decode cX7_send 5 = .ok (.ifCond .eq 17, 3) := by decide +kernel
theorem dX7_send_8 : decode cX7_send 8 = .ok (.iload_n 2, 1) := by decide +kernel
theorem dX7_send_9 : decode cX7_send 9 = .ok (.bipush (-4), 2) := by decide +kernel
theorem dX7_send_11 : decode cX7_send 11 = .ok (.if_icmp .eq 13, 3) := by decide +kernel
theorem dX7_send_14 : decode cX7_send 14 = .ok (.aload_n 0, 1) := by decide +kernel
theorem dX7_send_15 : decode cX7_send 15 = .ok (.iload_n 2, 1) := by decide +kernel
theorem dX7_send_16 : decode cX7_send 16 = .ok (.invokevirtual 92, 3) := by decide +kernel
theorem dX7_send_19 : decode cX7_send 19 = .ok (.ifCond .ne 5, 3) := by decide +kernel
theorem dX7_send_22 : decode cX7_send 22 = .ok (.iconst (-1), 1) := by decide +kernel
theorem dX7_send_23 : decode cX7_send 23 = .ok (.ireturn, 1) := by decide +kernel
theorem dX7_send_24 : decode cX7_send 24 = .ok (.aload_n 0, 1) := by decide +kernel
theorem dX7_send_25 : decode cX7_send 25 = .ok (.getfield 10, 3) := by decide +kernel
theorem dX7_send_28 : decode cX7_send 28 = .ok (.getfield 127, 3) := by decide +kernel
theorem dX7_send_31 : decode cX7_send 31 = .ok (.iload_n 1, 1) := by decide +kernel
theorem dX7_send_32 : decode cX7_send 32 = .ok (.iaload, 1) := by decide +kernel
theorem dX7_send_33 : decode cX7_send 33 = .ok (.istore_n 3, 1) := by decide +kernel
theorem dX7_send_34 : decode cX7_send 34 = .ok (.iload_n 3, 1) := by decide +kernel
theorem dX7_send_35 : decode cX7_send 35 = .ok (.iload_n 2, 1) := by decide +kernel
theorem dX7_send_36 : decode cX7_send 36 = .ok (.if_icmp .ne 6, 3) := by decide +kernel
theorem dX7_send_39 : decode cX7_send 39 = .ok (.bipush (-2), 2) := by decide +kernel
theorem dX7_send_41 : decode cX7_send 41 = .ok (.ireturn, 1) := by decide +kernel
theorem dX7_send_42 : decode cX7_send 42 = .ok (.aload_n 0, 1) := by decide +kernel
theorem dX7_send_43 : decode cX7_send 43 = .ok (.getfield 19, 3) := by decide +kernel
theorem dX7_send_46 : decode cX7_send 46 = .ok (.aload_n 0, 1) := by decide +kernel
theorem dX7_send_47 : decode cX7_send 47 = .ok (.getfield 10, 3) := by decide +kernel
theorem dX7_send_50 : decode cX7_send 50 = .ok (.invokevirtual 171, 3) := by decide +kernel
theorem dX7_send_53 : decode cX7_send 53 = .ok (.aload_n 0, 1) := by decide +kernel
theorem dX7_send_54 : decode cX7_send 54 = .ok (.getfield 10, 3) := by decide +kernel
theorem dX7_send_57 : decode cX7_send 57 = .ok (.getfield 127, 3) := by decide +kernel
theorem dX7_send_60 : decode cX7_send 60 = .ok (.iload_n 1, 1) := by decide +kernel
theorem dX7_send_61 : decode cX7_send 61 = .ok (.iload_n 2, 1) := by decide +kernel
theorem dX7_send_62 : decode cX7_send 62 = .ok (.iastore, 1) := by decide +kernel
theorem dX7_send_63 : decode cX7_send 63 = .ok (.iload_n 3, 1) := by decide +kernel
theorem dX7_send_64 : decode cX7_send 64 = .ok (.ireturn, 1) := by decide +kernel
set_option maxRecDepth 20000 in
theorem ggX7_press_X7_hasMonk : GoodIn wsX7_press wsX7_hasMonk := goodIn_r _ [7, 1, 8, 87, 88, 89, 90, 91, 92, 93, 94, 95, 96, 97, 98, 99, 100, 101, 102, 103, 104, 105, 106, 107, 108, 109, 110] (by decide +kernel) (by decide +kernel)
set_option maxRecDepth 20000 in
theorem gX7_press_X7_hasMonk : GoodIn wsX7_press (wsV RX7 118 RX7 yX7_hasMonk wsX7_hasMonk) := goodIn_app (goodIn_of _ (by decide +kernel)) ggX7_press_X7_hasMonk
set_option maxRecDepth 20000 in
theorem ggX7_press_X7_hasMark : GoodIn wsX7_press wsX7_hasMark := goodIn_r _ [12, 1, 13, 87, 88, 89, 90, 91, 92, 93, 94, 95, 96, 97, 98, 99, 100, 101, 102, 103, 104, 105, 106, 107, 108, 109, 110] (by decide +kernel) (by decide +kernel)
set_option maxRecDepth 20000 in
theorem gX7_press_X7_hasMark : GoodIn wsX7_press (wsV RX7 92 RX7 yX7_hasMark wsX7_hasMark) := goodIn_app (goodIn_of _ (by decide +kernel)) ggX7_press_X7_hasMark
set_option maxRecDepth 20000 in
theorem ggX7_press_X7_within : GoodIn wsX7_press wsX7_within := goodIn_r _ [16] (by decide +kernel) (by decide +kernel)
set_option maxRecDepth 20000 in
theorem gX7_press_X7_within : GoodIn wsX7_press (va_wsS RX7 71 yX7_within wsX7_within) := goodIn_app (goodIn_of _ (by decide +kernel)) ggX7_press_X7_within
set_option maxRecDepth 20000 in
theorem ggX7_press_X2_canRub : GoodIn wsX7_press wsX2_canRub := goodIn_r _ [21, 22, 23, 24, 25, 20, 26, 27, 28, 29, 30, 31, 32, 33, 34, 35, 36, 37, 99, 100, 101, 102, 103, 104, 105, 106, 107, 108, 109, 110] (by decide +kernel) (by decide +kernel)
set_option maxRecDepth 20000 in
theorem gX7_press_X2_canRub : GoodIn wsX7_press (wsV RX7 174 RX2 yX2_canRub wsX2_canRub) := goodIn_app (goodIn_of _ (by decide +kernel)) ggX7_press_X2_canRub
set_option maxRecDepth 20000 in
theorem ggX7_press_X0_keep : GoodIn wsX7_press wsX0_keep := goodIn_r _ [42, 43, 44, 45, 46, 47, 48, 20, 49, 50, 51, 52, 53, 54, 31, 55, 56, 57, 58, 59, 32, 37, 60, 22, 61, 111, 112, 113, 99, 100, 101, 102, 103, 104, 105, 106, 107, 108, 109, 110] (by decide +kernel) (by decide +kernel)
set_option maxRecDepth 20000 in
theorem gX7_press_X0_keep : GoodIn wsX7_press (wsV RX7 171 RX0 yX0_keep wsX0_keep) := goodIn_app (goodIn_of _ (by decide +kernel)) ggX7_press_X0_keep
set_option maxRecDepth 20000 in
theorem ggX7_press_X2_rubTimes : GoodIn wsX7_press wsX2_rubTimes := goodIn_r _ [65, 66, 18, 19, 20, 21, 22, 23, 24, 25, 26, 27, 28, 29, 30, 31, 32, 33, 34, 35, 36, 37, 67, 68, 69, 70, 60, 71, 72, 73, 74, 59, 75, 76, 77, 53, 78, 79, 80, 81, 82, 83, 84, 85, 86, 99, 100, 101, 102, 103, 104, 105, 106, 107, 108, 109, 110] (by decide +kernel) (by decide +kernel)
set_option maxRecDepth 20000 in
theorem gX7_press_X2_rubTimes : GoodIn wsX7_press (wsV RX7 178 RX2 yX2_rubTimes wsX2_rubTimes) := goodIn_app (goodIn_of _ (by decide +kernel)) ggX7_press_X2_rubTimes
theorem dX7_press_0 : decode cX7_press 0 = .ok (.aload_n 0, 1) := by decide +kernel
theorem dX7_press_1 : decode cX7_press 1 = .ok (.iload_n 1, 1) := by decide +kernel
theorem dX7_press_2 : decode cX7_press 2 = .ok (.invokevirtual 118, 3) := by decide +kernel
theorem dX7_press_5 : decode cX7_press 5 = .ok (.ifCond .eq 21, 3) := by decide +kernel
theorem dX7_press_8 : decode cX7_press 8 = .ok (.aload_n 0, 1) := by decide +kernel
theorem dX7_press_9 : decode cX7_press 9 = .ok (.iload_n 2, 1) := by decide +kernel
theorem dX7_press_10 : decode cX7_press 10 = .ok (.invokevirtual 92, 3) := by decide +kernel
theorem dX7_press_13 : decode cX7_press 13 = .ok (.ifCond .eq 13, 3) := by decide +kernel
theorem dX7_press_16 : decode cX7_press 16 = .ok (.iload_n 3, 1) := by decide +kernel
theorem dX7_press_17 : decode cX7_press 17 = .ok (.iconst 1, 1) := by decide +kernel
theorem dX7_press_18 : decode cX7_press 18 = .ok (.bipush 60, 2) := by decide +kernel
theorem dX7_press_20 : decode cX7_press 20 = .ok (.invokestatic 71, 3) := by decide +kernel
theorem dX7_press_23 : decode cX7_press 23 = .ok (.ifCond .ne 5, 3) := by decide +kernel
theorem dX7_press_26 : decode cX7_press 26 = .ok (.iconst (-1), 1) := by decide +kernel
theorem dX7_press_27 : decode cX7_press 27 = .ok (.ireturn, 1) := by decide +kernel
theorem dX7_press_28 : decode cX7_press 28 = .ok (.aload_n 0, 1) := by decide +kernel
theorem dX7_press_29 : decode cX7_press 29 = .ok (.getfield 10, 3) := by decide +kernel
theorem dX7_press_32 : decode cX7_press 32 = .ok (.iload_n 1, 1) := by decide +kernel
theorem dX7_press_33 : decode cX7_press 33 = .ok (.iload_n 2, 1) := by decide +kernel
theorem dX7_press_34 : decode cX7_press 34 = .ok (.invokevirtual 174, 3) := by decide +kernel
theorem dX7_press_37 : decode cX7_press 37 = .ok (.ifCond .ne 6, 3) := by decide +kernel
theorem dX7_press_40 : decode cX7_press 40 = .ok (.bipush (-2), 2) := by decide +kernel
theorem dX7_press_42 : decode cX7_press 42 = .ok (.ireturn, 1) := by decide +kernel
theorem dX7_press_43 : decode cX7_press 43 = .ok (.aload_n 0, 1) := by decide +kernel
theorem dX7_press_44 : decode cX7_press 44 = .ok (.getfield 19, 3) := by decide +kernel
theorem dX7_press_47 : decode cX7_press 47 = .ok (.aload_n 0, 1) := by decide +kernel
theorem dX7_press_48 : decode cX7_press 48 = .ok (.getfield 10, 3) := by decide +kernel
theorem dX7_press_51 : decode cX7_press 51 = .ok (.invokevirtual 171, 3) := by decide +kernel
theorem dX7_press_54 : decode cX7_press 54 = .ok (.aload_n 0, 1) := by decide +kernel
theorem dX7_press_55 : decode cX7_press 55 = .ok (.getfield 10, 3) := by decide +kernel
theorem dX7_press_58 : decode cX7_press 58 = .ok (.iload_n 1, 1) := by decide +kernel
theorem dX7_press_59 : decode cX7_press 59 = .ok (.iload_n 2, 1) := by decide +kernel
theorem dX7_press_60 : decode cX7_press 60 = .ok (.iload_n 3, 1) := by decide +kernel
theorem dX7_press_61 : decode cX7_press 61 = .ok (.invokevirtual 178, 3) := by decide +kernel
theorem dX7_press_64 : decode cX7_press 64 = .ok (.ireturn, 1) := by decide +kernel
set_option maxRecDepth 20000 in
theorem ggX7_ink_X7_hasMark : GoodIn wsX7_ink wsX7_hasMark := goodIn_r _ [12, 1, 13, 50, 51, 52, 53, 54, 55, 56, 57, 58, 59, 60, 61, 62, 63, 64, 65, 66, 67, 68, 69, 70, 71, 72, 73] (by decide +kernel) (by decide +kernel)
set_option maxRecDepth 20000 in
theorem gX7_ink_X7_hasMark : GoodIn wsX7_ink (wsV RX7 92 RX7 yX7_hasMark wsX7_hasMark) := goodIn_app (goodIn_of _ (by decide +kernel)) ggX7_ink_X7_hasMark
set_option maxRecDepth 20000 in
theorem ggX7_ink_X7_within : GoodIn wsX7_ink wsX7_within := goodIn_r _ [16] (by decide +kernel) (by decide +kernel)
set_option maxRecDepth 20000 in
theorem gX7_ink_X7_within : GoodIn wsX7_ink (va_wsS RX7 71 yX7_within wsX7_within) := goodIn_app (goodIn_of _ (by decide +kernel)) ggX7_ink_X7_within
set_option maxRecDepth 20000 in
theorem ggX7_ink_X2_isTorn : GoodIn wsX7_ink wsX2_isTorn := goodIn_r _ [21, 22, 62, 63, 64, 65, 66, 67, 68, 69, 70, 71, 72, 73] (by decide +kernel) (by decide +kernel)
set_option maxRecDepth 20000 in
theorem gX7_ink_X2_isTorn : GoodIn wsX7_ink (wsV RX7 111 RX2 yX2_isTorn wsX2_isTorn) := goodIn_app (goodIn_of _ (by decide +kernel)) ggX7_ink_X2_isTorn
set_option maxRecDepth 20000 in
theorem ggX7_ink_X0_keep : GoodIn wsX7_ink wsX0_keep := goodIn_r _ [27, 28, 29, 30, 31, 32, 33, 20, 34, 35, 36, 37, 38, 39, 40, 41, 42, 43, 44, 45, 46, 22, 47, 48, 49, 74, 75, 76, 62, 63, 64, 65, 66, 67, 68, 69, 70, 71, 72, 73] (by decide +kernel) (by decide +kernel)
set_option maxRecDepth 20000 in
theorem gX7_ink_X0_keep : GoodIn wsX7_ink (wsV RX7 171 RX0 yX0_keep wsX0_keep) := goodIn_app (goodIn_of _ (by decide +kernel)) ggX7_ink_X0_keep
theorem dX7_ink_0 : decode cX7_ink 0 = .ok (.aload_n 0, 1) := by decide +kernel
theorem dX7_ink_1 : decode cX7_ink 1 = .ok (.iload_n 1, 1) := by decide +kernel
theorem dX7_ink_2 : decode cX7_ink 2 = .ok (.invokevirtual 92, 3) := by decide +kernel
theorem dX7_ink_5 : decode cX7_ink 5 = .ok (.ifCond .eq 13, 3) := by decide +kernel
theorem dX7_ink_8 : decode cX7_ink 8 = .ok (.iload_n 2, 1) := by decide +kernel
theorem dX7_ink_9 : decode cX7_ink 9 = .ok (.iconst 1, 1) := by decide +kernel
theorem dX7_ink_10 : decode cX7_ink 10 = .ok (.bipush 60, 2) := by decide +kernel
theorem dX7_ink_12 : decode cX7_ink 12 = .ok (.invokestatic 71, 3) := by decide +kernel
theorem dX7_ink_15 : decode cX7_ink 15 = .ok (.ifCond .ne 5, 3) := by decide +kernel
theorem dX7_ink_18 : decode cX7_ink 18 = .ok (.iconst (-1), 1) := by decide +kernel
theorem dX7_ink_19 : decode cX7_ink 19 = .ok (.ireturn, 1) := by decide +kernel
theorem dX7_ink_20 : decode cX7_ink 20 = .ok (.aload_n 0, 1) := by decide +kernel
theorem dX7_ink_21 : decode cX7_ink 21 = .ok (.getfield 10, 3) := by decide +kernel
theorem dX7_ink_24 : decode cX7_ink 24 = .ok (.iload_n 1, 1) := by decide +kernel
theorem dX7_ink_25 : decode cX7_ink 25 = .ok (.invokevirtual 111, 3) := by decide +kernel
theorem dX7_ink_28 : decode cX7_ink 28 = .ok (.ifCond .eq 6, 3) := by decide +kernel
theorem dX7_ink_31 : decode cX7_ink 31 = .ok (.bipush (-2), 2) := by decide +kernel
theorem dX7_ink_33 : decode cX7_ink 33 = .ok (.ireturn, 1) := by decide +kernel
theorem dX7_ink_34 : decode cX7_ink 34 = .ok (.aload_n 0, 1) := by decide +kernel
theorem dX7_ink_35 : decode cX7_ink 35 = .ok (.getfield 19, 3) := by decide +kernel
theorem dX7_ink_38 : decode cX7_ink 38 = .ok (.aload_n 0, 1) := by decide +kernel
theorem dX7_ink_39 : decode cX7_ink 39 = .ok (.getfield 10, 3) := by decide +kernel
theorem dX7_ink_42 : decode cX7_ink 42 = .ok (.invokevirtual 171, 3) := by decide +kernel
theorem dX7_ink_45 : decode cX7_ink 45 = .ok (.aload_n 0, 1) := by decide +kernel
theorem dX7_ink_46 : decode cX7_ink 46 = .ok (.getfield 10, 3) := by decide +kernel
theorem dX7_ink_49 : decode cX7_ink 49 = .ok (.getfield 96, 3) := by decide +kernel
theorem dX7_ink_52 : decode cX7_ink 52 = .ok (.iload_n 1, 1) := by decide +kernel
theorem dX7_ink_53 : decode cX7_ink 53 = .ok (.bipush 60, 2) := by decide +kernel
theorem dX7_ink_55 : decode cX7_ink 55 = .ok (.aload_n 0, 1) := by decide +kernel
theorem dX7_ink_56 : decode cX7_ink 56 = .ok (.getfield 10, 3) := by decide +kernel
theorem dX7_ink_59 : decode cX7_ink 59 = .ok (.getfield 96, 3) := by decide +kernel
theorem dX7_ink_62 : decode cX7_ink 62 = .ok (.iload_n 1, 1) := by decide +kernel
theorem dX7_ink_63 : decode cX7_ink 63 = .ok (.iaload, 1) := by decide +kernel
theorem dX7_ink_64 : decode cX7_ink 64 = .ok (.iload_n 2, 1) := by decide +kernel
theorem dX7_ink_65 : decode cX7_ink 65 = .ok (.iadd, 1) := by decide +kernel
theorem dX7_ink_66 : decode cX7_ink 66 = .ok (.invokestatic 181, 3) := by decide +kernel
theorem dX7_ink_69 : decode cX7_ink 69 = .ok (.iastore, 1) := by decide +kernel
theorem dX7_ink_70 : decode cX7_ink 70 = .ok (.aload_n 0, 1) := by decide +kernel
theorem dX7_ink_71 : decode cX7_ink 71 = .ok (.getfield 10, 3) := by decide +kernel
theorem dX7_ink_74 : decode cX7_ink 74 = .ok (.getfield 96, 3) := by decide +kernel
theorem dX7_ink_77 : decode cX7_ink 77 = .ok (.iload_n 1, 1) := by decide +kernel
theorem dX7_ink_78 : decode cX7_ink 78 = .ok (.iaload, 1) := by decide +kernel
theorem dX7_ink_79 : decode cX7_ink 79 = .ok (.ireturn, 1) := by decide +kernel
set_option maxRecDepth 20000 in
theorem ggX7_drift_X7_liveThrough : GoodIn wsX7_drift wsX7_liveThrough := goodIn_r _ [5, 6, 7, 8, 9, 10, 4, 11, 12, 13, 14, 15, 16, 17, 18, 19, 20, 21, 22, 23, 24, 25, 26, 27, 28, 29, 30, 31, 32, 33, 34, 35, 36, 37, 38, 39, 40, 41, 42, 43, 44, 45, 46, 47, 48, 49, 50, 51, 52, 53, 54, 55, 56, 57, 58, 59, 60, 61, 62, 63, 64, 65, 66, 67, 68, 69, 70, 71, 72, 73, 74, 75, 76, 77, 78, 79, 80, 81, 82, 83, 84, 85, 86, 87, 88, 89, 90, 91, 92, 93, 94, 95, 96, 97, 98, 99, 100, 101, 102, 103, 104, 105, 106, 107, 108, 109, 110, 111, 112, 113, 114, 115, 116, 117, 118] (by decide +kernel) (by decide +kernel)
set_option maxRecDepth 20000 in
theorem gX7_drift_X7_liveThrough : GoodIn wsX7_drift (wsV RX7 167 RX7 yX7_liveThrough wsX7_liveThrough) := goodIn_app (goodIn_of _ (by decide +kernel)) ggX7_drift_X7_liveThrough
theorem dX7_drift_0 : decode cX7_drift 0 = .ok (.aload_n 0, 1) := by decide +kernel
theorem dX7_drift_1 : decode cX7_drift 1 = .ok (.iload_n 1, 1) := by decide +kernel
theorem dX7_drift_2 : decode cX7_drift 2 = .ok (.iconst 1, 1) := by decide +kernel
theorem dX7_drift_3 : decode cX7_drift 3 = .ok (.invokevirtual 167, 3) := by decide +kernel
theorem dX7_drift_6 : decode cX7_drift 6 = .ok (.ireturn, 1) := by decide +kernel
set_option maxRecDepth 20000 in
theorem ggX7_undo_X0_takeBack : GoodIn wsX7_undo wsX0_takeBack := goodIn_r _ [8, 9, 10, 11, 12, 13, 14, 15, 16, 17, 18, 19, 20, 21, 22, 23, 24, 25, 26, 27, 28, 29, 30, 31, 32, 45, 46, 47, 48, 49, 50, 51, 52, 53, 54, 55, 56, 57, 58, 59] (by decide +kernel) (by decide +kernel)
set_option maxRecDepth 20000 in
theorem gX7_undo_X0_takeBack : GoodIn wsX7_undo (wsV RX7 187 RX0 yX0_takeBack wsX0_takeBack) := goodIn_app (goodIn_of _ (by decide +kernel)) ggX7_undo_X0_takeBack
theorem dX7_undo_0 : decode cX7_undo 0 = .ok (.aload_n 0, 1) := by decide +kernel
theorem dX7_undo_1 : decode cX7_undo 1 = .ok (.getfield 19, 3) := by decide +kernel
theorem dX7_undo_4 : decode cX7_undo 4 = .ok (.getfield 166, 3) := by decide +kernel
theorem dX7_undo_7 : decode cX7_undo 7 = .ok (.iconst 1, 1) := by decide +kernel
theorem dX7_undo_8 : decode cX7_undo 8 = .ok (.if_icmp .ge 6, 3) := by decide +kernel
theorem dX7_undo_11 : decode cX7_undo 11 = .ok (.bipush (-4), 2) := by decide +kernel
theorem dX7_undo_13 : decode cX7_undo 13 = .ok (.ireturn, 1) := by decide +kernel
theorem dX7_undo_14 : decode cX7_undo 14 = .ok (.aload_n 0, 1) := by decide +kernel
theorem dX7_undo_15 : decode cX7_undo 15 = .ok (.getfield 19, 3) := by decide +kernel
theorem dX7_undo_18 : decode cX7_undo 18 = .ok (.aload_n 0, 1) := by decide +kernel
theorem dX7_undo_19 : decode cX7_undo 19 = .ok (.getfield 10, 3) := by decide +kernel
theorem dX7_undo_22 : decode cX7_undo 22 = .ok (.invokevirtual 187, 3) := by decide +kernel
theorem dX7_undo_25 : decode cX7_undo 25 = .ok (.aload_n 0, 1) := by decide +kernel
theorem dX7_undo_26 : decode cX7_undo 26 = .ok (.getfield 19, 3) := by decide +kernel
theorem dX7_undo_29 : decode cX7_undo 29 = .ok (.getfield 166, 3) := by decide +kernel
theorem dX7_undo_32 : decode cX7_undo 32 = .ok (.ireturn, 1) := by decide +kernel
theorem dX7_seed_0 : decode cX7_seed 0 = .ok (.iload_n 1, 1) := by decide +kernel
theorem dX7_seed_1 : decode cX7_seed 1 = .ok (.ifCond .ge 5, 3) := by decide +kernel
theorem dX7_seed_4 : decode cX7_seed 4 = .ok (.iconst (-1), 1) := by decide +kernel
theorem dX7_seed_5 : decode cX7_seed 5 = .ok (.ireturn, 1) := by decide +kernel
theorem dX7_seed_6 : decode cX7_seed 6 = .ok (.aload_n 0, 1) := by decide +kernel
theorem dX7_seed_7 : decode cX7_seed 7 = .ok (.getfield 10, 3) := by decide +kernel
theorem dX7_seed_10 : decode cX7_seed 10 = .ok (.getfield 140, 3) := by decide +kernel
theorem dX7_seed_13 : decode cX7_seed 13 = .ok (.istore_n 2, 1) := by decide +kernel
theorem dX7_seed_14 : decode cX7_seed 14 = .ok (.aload_n 0, 1) := by decide +kernel
theorem dX7_seed_15 : decode cX7_seed 15 = .ok (.getfield 10, 3) := by decide +kernel
theorem dX7_seed_18 : decode cX7_seed 18 = .ok (.iload_n 1, 1) := by decide +kernel
theorem dX7_seed_19 : decode cX7_seed 19 = .ok (.putfield 140, 3) := by decide +kernel
theorem dX7_seed_22 : decode cX7_seed 22 = .ok (.iload_n 2, 1) := by decide +kernel
theorem dX7_seed_23 : decode cX7_seed 23 = .ok (.ireturn, 1) := by decide +kernel
set_option maxRecDepth 20000 in
theorem ggX7_dark_X7_hasMark : GoodIn wsX7_dark wsX7_hasMark := goodIn_r _ [7, 8, 9, 78, 79, 80, 81, 82, 83, 84, 85, 86, 87, 88, 89, 90, 91, 92, 93, 94, 95, 96, 97, 98, 99, 100, 101] (by decide +kernel) (by decide +kernel)
set_option maxRecDepth 20000 in
theorem gX7_dark_X7_hasMark : GoodIn wsX7_dark (wsV RX7 92 RX7 yX7_hasMark wsX7_hasMark) := goodIn_app (goodIn_of _ (by decide +kernel)) ggX7_dark_X7_hasMark
set_option maxRecDepth 20000 in
theorem ggX7_dark_X7_within : GoodIn wsX7_dark wsX7_within := goodIn_r _ [12] (by decide +kernel) (by decide +kernel)
set_option maxRecDepth 20000 in
theorem gX7_dark_X7_within : GoodIn wsX7_dark (va_wsS RX7 71 yX7_within wsX7_within) := goodIn_app (goodIn_of _ (by decide +kernel)) ggX7_dark_X7_within
set_option maxRecDepth 20000 in
theorem ggX7_dark_X7_foretell : GoodIn wsX7_dark wsX7_foretell := goodIn_r _ [16, 1, 8, 17, 18, 19, 20, 21, 22, 23, 24, 25, 26, 27, 28, 29, 30, 31, 32, 33, 34, 35, 36, 37, 38, 39, 40, 41, 42, 43, 44, 45, 46, 47, 48, 49, 50, 51, 52, 53, 54, 55, 56, 57, 58, 59, 60, 61, 62, 63, 64, 65, 66, 67, 68, 69, 70, 71, 72, 73, 74, 75, 76, 77, 78, 79, 80, 81, 82, 83, 84, 85, 86, 87, 88, 89, 90, 91, 92, 93, 94, 95, 96, 97, 98, 99, 100, 101] (by decide +kernel) (by decide +kernel)
set_option maxRecDepth 20000 in
theorem gX7_dark_X7_foretell : GoodIn wsX7_dark (wsV RX7 190 RX7 yX7_foretell wsX7_foretell) := goodIn_app (goodIn_of _ (by decide +kernel)) ggX7_dark_X7_foretell
theorem dX7_dark_0 : decode cX7_dark 0 = .ok (.aload_n 0, 1) := by decide +kernel
theorem dX7_dark_1 : decode cX7_dark 1 = .ok (.iload_n 1, 1) := by decide +kernel
theorem dX7_dark_2 : decode cX7_dark 2 = .ok (.invokevirtual 92, 3) := by decide +kernel
theorem dX7_dark_5 : decode cX7_dark 5 = .ok (.ifCond .eq 13, 3) := by decide +kernel
theorem dX7_dark_8 : decode cX7_dark 8 = .ok (.iload_n 2, 1) := by decide +kernel
theorem dX7_dark_9 : decode cX7_dark 9 = .ok (.iconst 0, 1) := by decide +kernel
theorem dX7_dark_10 : decode cX7_dark 10 = .ok (.bipush 60, 2) := by decide +kernel
theorem dX7_dark_12 : decode cX7_dark 12 = .ok (.invokestatic 71, 3) := by decide +kernel
theorem dX7_dark_15 : decode cX7_dark 15 = .ok (.ifCond .ne 5, 3) := by decide +kernel
theorem dX7_dark_18 : decode cX7_dark 18 = .ok (.iconst (-1), 1) := by decide +kernel
theorem dX7_dark_19 : decode cX7_dark 19 = .ok (.ireturn, 1) := by decide +kernel
theorem dX7_dark_20 : decode cX7_dark 20 = .ok (.aload_n 0, 1) := by decide +kernel
theorem dX7_dark_21 : decode cX7_dark 21 = .ok (.iload_n 2, 1) := by decide +kernel
theorem dX7_dark_22 : decode cX7_dark 22 = .ok (.invokevirtual 190, 3) := by decide +kernel
theorem dX7_dark_25 : decode cX7_dark 25 = .ok (.aload_n 0, 1) := by decide +kernel
theorem dX7_dark_26 : decode cX7_dark 26 = .ok (.getfield 42, 3) := by decide +kernel
theorem dX7_dark_29 : decode cX7_dark 29 = .ok (.getfield 96, 3) := by decide +kernel
theorem dX7_dark_32 : decode cX7_dark 32 = .ok (.iload_n 1, 1) := by decide +kernel
theorem dX7_dark_33 : decode cX7_dark 33 = .ok (.iaload, 1) := by decide +kernel
theorem dX7_dark_34 : decode cX7_dark 34 = .ok (.ireturn, 1) := by decide +kernel
set_option maxRecDepth 20000 in
theorem ggX7_size_X7_hasMonk : GoodIn wsX7_size wsX7_hasMonk := goodIn_r _ [7, 8, 9, 78, 79, 80, 81, 82, 83, 84, 85, 86, 87, 88, 89, 90, 91, 92, 93, 94, 95, 96, 97, 98, 99, 100, 101] (by decide +kernel) (by decide +kernel)
set_option maxRecDepth 20000 in
theorem gX7_size_X7_hasMonk : GoodIn wsX7_size (wsV RX7 118 RX7 yX7_hasMonk wsX7_hasMonk) := goodIn_app (goodIn_of _ (by decide +kernel)) ggX7_size_X7_hasMonk
set_option maxRecDepth 20000 in
theorem ggX7_size_X7_within : GoodIn wsX7_size wsX7_within := goodIn_r _ [12] (by decide +kernel) (by decide +kernel)
set_option maxRecDepth 20000 in
theorem gX7_size_X7_within : GoodIn wsX7_size (va_wsS RX7 71 yX7_within wsX7_within) := goodIn_app (goodIn_of _ (by decide +kernel)) ggX7_size_X7_within
set_option maxRecDepth 20000 in
theorem ggX7_size_X7_foretell : GoodIn wsX7_size wsX7_foretell := goodIn_r _ [16, 1, 8, 17, 18, 19, 20, 21, 22, 23, 24, 25, 26, 27, 28, 29, 30, 31, 32, 33, 34, 35, 36, 37, 38, 39, 40, 41, 42, 43, 44, 45, 46, 47, 48, 49, 50, 51, 52, 53, 54, 55, 56, 57, 58, 59, 60, 61, 62, 63, 64, 65, 66, 67, 68, 69, 70, 71, 72, 73, 74, 75, 76, 77, 78, 79, 80, 81, 82, 83, 84, 85, 86, 87, 88, 89, 90, 91, 92, 93, 94, 95, 96, 97, 98, 99, 100, 101] (by decide +kernel) (by decide +kernel)
set_option maxRecDepth 20000 in
theorem gX7_size_X7_foretell : GoodIn wsX7_size (wsV RX7 190 RX7 yX7_foretell wsX7_foretell) := goodIn_app (goodIn_of _ (by decide +kernel)) ggX7_size_X7_foretell
theorem dX7_size_0 : decode cX7_size 0 = .ok (.aload_n 0, 1) := by decide +kernel
theorem dX7_size_1 : decode cX7_size 1 = .ok (.iload_n 1, 1) := by decide +kernel
theorem dX7_size_2 : decode cX7_size 2 = .ok (.invokevirtual 118, 3) := by decide +kernel
theorem dX7_size_5 : decode cX7_size 5 = .ok (.ifCond .eq 13, 3) := by decide +kernel
theorem dX7_size_8 : decode cX7_size 8 = .ok (.iload_n 2, 1) := by decide +kernel
theorem dX7_size_9 : decode cX7_size 9 = .ok (.iconst 0, 1) := by decide +kernel
theorem dX7_size_10 : decode cX7_size 10 = .ok (.bipush 60, 2) := by decide +kernel
theorem dX7_size_12 : decode cX7_size 12 = .ok (.invokestatic 71, 3) := by decide +kernel
theorem dX7_size_15 : decode cX7_size 15 = .ok (.ifCond .ne 5, 3) := by decide +kernel
theorem dX7_size_18 : decode cX7_size 18 = .ok (.iconst (-1), 1) := by decide +kernel
theorem dX7_size_19 : decode cX7_size 19 = .ok (.ireturn, 1) := by decide +kernel
theorem dX7_size_20 : decode cX7_size 20 = .ok (.aload_n 0, 1) := by decide +kernel
theorem dX7_size_21 : decode cX7_size 21 = .ok (.iload_n 2, 1) := by decide +kernel
theorem dX7_size_22 : decode cX7_size 22 = .ok (.invokevirtual 190, 3) := by decide +kernel
theorem dX7_size_25 : decode cX7_size 25 = .ok (.aload_n 0, 1) := by decide +kernel
theorem dX7_size_26 : decode cX7_size 26 = .ok (.getfield 42, 3) := by decide +kernel
theorem dX7_size_29 : decode cX7_size 29 = .ok (.getfield 124, 3) := by decide +kernel
theorem dX7_size_32 : decode cX7_size 32 = .ok (.iload_n 1, 1) := by decide +kernel
theorem dX7_size_33 : decode cX7_size 33 = .ok (.iaload, 1) := by decide +kernel
theorem dX7_size_34 : decode cX7_size 34 = .ok (.ireturn, 1) := by decide +kernel
set_option maxRecDepth 20000 in
theorem ggX7_then_X7_within : GoodIn wsX7_then wsX7_within := goodIn_r _ [6] (by decide +kernel) (by decide +kernel)
set_option maxRecDepth 20000 in
theorem gX7_then_X7_within : GoodIn wsX7_then (va_wsS RX7 71 yX7_within wsX7_within) := goodIn_app (goodIn_of _ (by decide +kernel)) ggX7_then_X7_within
set_option maxRecDepth 20000 in
theorem ggX7_then_X7_foretell : GoodIn wsX7_then wsX7_foretell := goodIn_r _ [10, 1, 11, 12, 13, 14, 15, 16, 17, 18, 19, 20, 21, 22, 23, 24, 25, 26, 27, 28, 29, 30, 31, 32, 33, 34, 35, 36, 37, 38, 39, 40, 41, 42, 43, 44, 45, 46, 47, 48, 49, 50, 51, 52, 53, 54, 55, 56, 57, 58, 59, 60, 61, 62, 63, 64, 65, 66, 67, 68, 69, 70, 71, 72, 81, 82, 83, 84, 85, 86, 87, 88, 89, 90, 91, 92, 93, 94, 95, 96, 97, 98, 99, 100, 101, 102, 103, 104] (by decide +kernel) (by decide +kernel)
set_option maxRecDepth 20000 in
theorem gX7_then_X7_foretell : GoodIn wsX7_then (wsV RX7 190 RX7 yX7_foretell wsX7_foretell) := goodIn_app (goodIn_of _ (by decide +kernel)) ggX7_then_X7_foretell
set_option maxRecDepth 20000 in
theorem ggX7_then_X2_goneSet : GoodIn wsX7_then wsX2_goneSet := goodIn_r _ [76, 17, 45, 46, 47, 15, 48, 22, 28, 93, 94, 95, 96, 97, 98, 99, 100, 101, 102, 103, 104] (by decide +kernel) (by decide +kernel)
set_option maxRecDepth 20000 in
theorem gX7_then_X2_goneSet : GoodIn wsX7_then (wsV RX7 153 RX2 yX2_goneSet wsX2_goneSet) := goodIn_app (goodIn_of _ (by decide +kernel)) ggX7_then_X2_goneSet
set_option maxRecDepth 20000 in
theorem ggX7_then_X2_tornSet : GoodIn wsX7_then wsX2_tornSet := goodIn_r _ [80, 17, 49, 50, 51, 15, 52, 29, 93, 94, 95, 96, 97, 98, 99, 100, 101, 102, 103, 104] (by decide +kernel) (by decide +kernel)
set_option maxRecDepth 20000 in
theorem gX7_then_X2_tornSet : GoodIn wsX7_then (wsV RX7 157 RX2 yX2_tornSet wsX2_tornSet) := goodIn_app (goodIn_of _ (by decide +kernel)) ggX7_then_X2_tornSet
theorem dX7_then_0 : decode cX7_then 0 = .ok (.iload_n 1, 1) := by decide +kernel
theorem dX7_then_1 : decode cX7_then 1 = .ok (.iconst 0, 1) := by decide +kernel
theorem dX7_then_2 : decode cX7_then 2 = .ok (.bipush 60, 2) := by decide +kernel
theorem dX7_then_4 : decode cX7_then 4 = .ok (.invokestatic 71, 3) := by decide +kernel
theorem dX7_then_7 : decode cX7_then 7 = .ok (.ifCond .eq 12, 3) := by decide +kernel
theorem dX7_then_10 : decode cX7_then 10 = .ok (.iload_n 2, 1) := by decide +kernel
theorem dX7_then_11 : decode cX7_then 11 = .ok (.iconst 0, 1) := by decide +kernel
theorem dX7_then_12 : decode cX7_then 12 = .ok (.iconst 2, 1) := by decide +kernel
theorem dX7_then_13 : decode cX7_then 13 = .ok (.invokestatic 71, 3) := by decide +kernel
theorem dX7_then_16 : decode cX7_then 16 = .ok (.ifCond .ne 5, 3) := by decide +kernel
theorem dX7_then_19 : decode cX7_then 19 = .ok (.iconst (-1), 1) := by decide +kernel
theorem dX7_then_20 : decode cX7_then 20 = .ok (.ireturn, 1) := by decide +kernel
theorem dX7_then_21 : decode cX7_then 21 = .ok (.aload_n 0, 1) := by decide +kernel
theorem dX7_then_22 : decode cX7_then 22 = .ok (.iload_n 1, 1) := by decide +kernel
theorem dX7_then_23 : decode cX7_then 23 = .ok (.invokevirtual 190, 3) := by decide +kernel
theorem dX7_then_26 : decode cX7_then 26 = .ok (.iload_n 2, 1) := by decide +kernel
theorem dX7_then_27 : decode cX7_then 27 = .ok (.lookupswitch 41 #[(0, 25), (1, 33)], 25) := by decide +kernel
theorem dX7_then_52 : decode cX7_then 52 = .ok (.aload_n 0, 1) := by decide +kernel
theorem dX7_then_53 : decode cX7_then 53 = .ok (.getfield 42, 3) := by decide +kernel
theorem dX7_then_56 : decode cX7_then 56 = .ok (.invokevirtual 153, 3) := by decide +kernel
theorem dX7_then_59 : decode cX7_then 59 = .ok (.ireturn, 1) := by decide +kernel
theorem dX7_then_60 : decode cX7_then 60 = .ok (.aload_n 0, 1) := by decide +kernel
theorem dX7_then_61 : decode cX7_then 61 = .ok (.getfield 42, 3) := by decide +kernel
theorem dX7_then_64 : decode cX7_then 64 = .ok (.invokevirtual 157, 3) := by decide +kernel
theorem dX7_then_67 : decode cX7_then 67 = .ok (.ireturn, 1) := by decide +kernel
theorem dX7_then_68 : decode cX7_then 68 = .ok (.aload_n 0, 1) := by decide +kernel
theorem dX7_then_69 : decode cX7_then 69 = .ok (.getfield 42, 3) := by decide +kernel
theorem dX7_then_72 : decode cX7_then 72 = .ok (.getfield 150, 3) := by decide +kernel
theorem dX7_then_75 : decode cX7_then 75 = .ok (.ireturn, 1) := by decide +kernel
set_option maxRecDepth 20000 in
theorem ggX7_gone_X7_hasMark : GoodIn wsX7_gone wsX7_hasMark := goodIn_r _ [7, 2, 8, 71, 72, 73, 74, 75, 76, 77, 78, 79, 80, 81, 82, 83, 84, 85, 86, 87, 88, 89, 90, 91, 92, 93, 94] (by decide +kernel) (by decide +kernel)
set_option maxRecDepth 20000 in
theorem gX7_gone_X7_hasMark : GoodIn wsX7_gone (wsV RX7 92 RX7 yX7_hasMark wsX7_hasMark) := goodIn_app (goodIn_of _ (by decide +kernel)) ggX7_gone_X7_hasMark
set_option maxRecDepth 20000 in
theorem ggX7_gone_X2_become : GoodIn wsX7_gone wsX2_become := goodIn_r _ [13, 14, 15, 16, 17, 18, 19, 20, 21, 22, 23, 24, 25, 26, 27, 28, 29, 83, 84, 85, 86, 87, 88, 89, 90, 91, 92, 93, 94] (by decide +kernel) (by decide +kernel)
set_option maxRecDepth 20000 in
theorem gX7_gone_X2_become : GoodIn wsX7_gone (wsV RX7 143 RX2 yX2_become wsX2_become) := goodIn_app (goodIn_of _ (by decide +kernel)) ggX7_gone_X2_become
set_option maxRecDepth 20000 in
theorem ggX7_gone_X2_isGone : GoodIn wsX7_gone wsX2_isGone := goodIn_r _ [33, 19, 25, 83, 84, 85, 86, 87, 88, 89, 90, 91, 92, 93, 94] (by decide +kernel) (by decide +kernel)
set_option maxRecDepth 20000 in
theorem gX7_gone_X2_isGone : GoodIn wsX7_gone (wsV RX7 108 RX2 yX2_isGone wsX2_isGone) := goodIn_app (goodIn_of _ (by decide +kernel)) ggX7_gone_X2_isGone
set_option maxRecDepth 20000 in
theorem ggX7_gone_X2_passDay : GoodIn wsX7_gone wsX2_passDay := goodIn_r _ [37, 15, 29, 16, 38, 39, 40, 12, 41, 28, 42, 43, 44, 45, 46, 31, 32, 33, 19, 25, 47, 48, 49, 50, 26, 51, 52, 53, 54, 27, 55, 56, 57, 58, 24, 59, 60, 61, 17, 62, 63, 64, 65, 66, 67, 68, 69, 70, 83, 84, 85, 86, 87, 88, 89, 90, 91, 92, 93, 94] (by decide +kernel) (by decide +kernel)
set_option maxRecDepth 20000 in
theorem gX7_gone_X2_passDay : GoodIn wsX7_gone (wsV RX7 194 RX2 yX2_passDay wsX2_passDay) := goodIn_app (goodIn_of _ (by decide +kernel)) ggX7_gone_X2_passDay
theorem dX7_gone_0 : decode cX7_gone 0 = .ok (.aload_n 0, 1) := by decide +kernel
theorem dX7_gone_1 : decode cX7_gone 1 = .ok (.iload_n 1, 1) := by decide +kernel
theorem dX7_gone_2 : decode cX7_gone 2 = .ok (.invokevirtual 92, 3) := by decide +kernel
theorem dX7_gone_5 : decode cX7_gone 5 = .ok (.ifCond .ne 5, 3) := by decide +kernel
theorem dX7_gone_8 : decode cX7_gone 8 = .ok (.iconst (-1), 1) := by decide +kernel
theorem dX7_gone_9 : decode cX7_gone 9 = .ok (.ireturn, 1) := by decide +kernel
theorem dX7_gone_10 : decode cX7_gone 10 = .ok (.aload_n 0, 1) := by decide +kernel
theorem dX7_gone_11 : decode cX7_gone 11 = .ok (.getfield 42, 3) := by decide +kernel
theorem dX7_gone_14 : decode cX7_gone 14 = .ok (.aload_n 0, 1) := by decide +kernel
theorem dX7_gone_15 : decode cX7_gone 15 = .ok (.getfield 10, 3) := by decide +kernel
theorem dX7_gone_18 : decode cX7_gone 18 = .ok (.invokevirtual 143, 3) := by decide +kernel
theorem dX7_gone_21 : decode cX7_gone 21 = .ok (.iconst 0, 1) := by decide +kernel
theorem dX7_gone_22 : decode cX7_gone 22 = .ok (.istore_n 2, 1) := by decide +kernel
theorem dX7_gone_23 : decode cX7_gone 23 = .ok (.iload_n 2, 1) := by decide +kernel
theorem dX7_gone_24 : decode cX7_gone 24 = .ok (.bipush 60, 2) := by decide +kernel
theorem dX7_gone_26 : decode cX7_gone 26 = .ok (.if_icmp .gt 30, 3) := by decide +kernel
theorem dX7_gone_29 : decode cX7_gone 29 = .ok (.aload_n 0, 1) := by decide +kernel
theorem dX7_gone_30 : decode cX7_gone 30 = .ok (.getfield 42, 3) := by decide +kernel
theorem dX7_gone_33 : decode cX7_gone 33 = .ok (.iload_n 1, 1) := by decide +kernel
theorem dX7_gone_34 : decode cX7_gone 34 = .ok (.invokevirtual 108, 3) := by decide +kernel
theorem dX7_gone_37 : decode cX7_gone 37 = .ok (.ifCond .eq 5, 3) := by decide +kernel
theorem dX7_gone_40 : decode cX7_gone 40 = .ok (.iload_n 2, 1) := by decide +kernel
theorem dX7_gone_41 : decode cX7_gone 41 = .ok (.ireturn, 1) := by decide +kernel
theorem dX7_gone_42 : decode cX7_gone 42 = .ok (.aload_n 0, 1) := by decide +kernel
theorem dX7_gone_43 : decode cX7_gone 43 = .ok (.getfield 42, 3) := by decide +kernel
theorem dX7_gone_46 : decode cX7_gone 46 = .ok (.iconst 0, 1) := by decide +kernel
theorem dX7_gone_47 : decode cX7_gone 47 = .ok (.invokevirtual 194, 3) := by decide +kernel
theorem dX7_gone_50 : decode cX7_gone 50 = .ok (.iinc 2 1, 3) := by decide +kernel
theorem dX7_gone_53 : decode cX7_gone 53 = .ok (.goto (-30), 3) := by decide +kernel
theorem dX7_gone_56 : decode cX7_gone 56 = .ok (.bipush (-4), 2) := by decide +kernel
theorem dX7_gone_58 : decode cX7_gone 58 = .ok (.ireturn, 1) := by decide +kernel
set_option maxRecDepth 20000 in
theorem ggX7_needs_X7_hasMonk : GoodIn wsX7_needs wsX7_hasMonk := goodIn_r _ [7, 2, 8, 76, 77, 78, 79, 80, 81, 82, 83, 84, 85, 86, 87, 88, 89, 90, 91, 92, 93, 94, 95, 96, 97, 98, 99] (by decide +kernel) (by decide +kernel)
set_option maxRecDepth 20000 in
theorem gX7_needs_X7_hasMonk : GoodIn wsX7_needs (wsV RX7 118 RX7 yX7_hasMonk wsX7_hasMonk) := goodIn_app (goodIn_of _ (by decide +kernel)) ggX7_needs_X7_hasMonk
set_option maxRecDepth 20000 in
theorem ggX7_needs_X7_hasMark : GoodIn wsX7_needs wsX7_hasMark := goodIn_r _ [12, 2, 13, 76, 77, 78, 79, 80, 81, 82, 83, 84, 85, 86, 87, 88, 89, 90, 91, 92, 93, 94, 95, 96, 97, 98, 99] (by decide +kernel) (by decide +kernel)
set_option maxRecDepth 20000 in
theorem gX7_needs_X7_hasMark : GoodIn wsX7_needs (wsV RX7 92 RX7 yX7_hasMark wsX7_hasMark) := goodIn_app (goodIn_of _ (by decide +kernel)) ggX7_needs_X7_hasMark
set_option maxRecDepth 20000 in
theorem ggX7_needs_X2_become : GoodIn wsX7_needs wsX2_become := goodIn_r _ [18, 19, 20, 21, 22, 23, 24, 25, 26, 27, 28, 29, 30, 31, 32, 33, 34, 88, 89, 90, 91, 92, 93, 94, 95, 96, 97, 98, 99] (by decide +kernel) (by decide +kernel)
set_option maxRecDepth 20000 in
theorem gX7_needs_X2_become : GoodIn wsX7_needs (wsV RX7 143 RX2 yX2_become wsX2_become) := goodIn_app (goodIn_of _ (by decide +kernel)) ggX7_needs_X2_become
set_option maxRecDepth 20000 in
theorem ggX7_needs_X2_rubTimes : GoodIn wsX7_needs wsX2_rubTimes := goodIn_r _ [38, 39, 40, 41, 17, 42, 33, 43, 44, 45, 46, 47, 48, 49, 50, 24, 30, 51, 52, 53, 54, 31, 55, 56, 57, 58, 32, 59, 60, 61, 62, 29, 63, 64, 65, 22, 66, 67, 68, 69, 70, 71, 72, 73, 74, 88, 89, 90, 91, 92, 93, 94, 95, 96, 97, 98, 99] (by decide +kernel) (by decide +kernel)
set_option maxRecDepth 20000 in
theorem gX7_needs_X2_rubTimes : GoodIn wsX7_needs (wsV RX7 178 RX2 yX2_rubTimes wsX2_rubTimes) := goodIn_app (goodIn_of _ (by decide +kernel)) ggX7_needs_X2_rubTimes
set_option maxRecDepth 20000 in
theorem ggX7_needs_X2_isGone : GoodIn wsX7_needs wsX2_isGone := goodIn_r _ [50, 24, 30, 88, 89, 90, 91, 92, 93, 94, 95, 96, 97, 98, 99] (by decide +kernel) (by decide +kernel)
set_option maxRecDepth 20000 in
theorem gX7_needs_X2_isGone : GoodIn wsX7_needs (wsV RX7 108 RX2 yX2_isGone wsX2_isGone) := goodIn_app (goodIn_of _ (by decide +kernel)) ggX7_needs_X2_isGone
theorem dX7_needs_0 : decode cX7_needs 0 = .ok (.aload_n 0, 1) := by decide +kernel
theorem dX7_needs_1 : decode cX7_needs 1 = .ok (.iload_n 1, 1) := by decide +kernel
theorem dX7_needs_2 : decode cX7_needs 2 = .ok (.invokevirtual 118, 3) := by decide +kernel
theorem dX7_needs_5 : decode cX7_needs 5 = .ok (.ifCond .eq 11, 3) := by decide +kernel
theorem dX7_needs_8 : decode cX7_needs 8 = .ok (.aload_n 0, 1) := by decide +kernel
theorem dX7_needs_9 : decode cX7_needs 9 = .ok (.iload_n 2, 1) := by decide +kernel
theorem dX7_needs_10 : decode cX7_needs 10 = .ok (.invokevirtual 92, 3) := by decide +kernel
theorem dX7_needs_13 : decode cX7_needs 13 = .ok (.ifCond .ne 5, 3) := by decide +kernel
theorem dX7_needs_16 : decode cX7_needs 16 = .ok (.iconst (-1), 1) := by decide +kernel
theorem dX7_needs_17 : decode cX7_needs 17 = .ok (.ireturn, 1) := by decide +kernel
theorem dX7_needs_18 : decode cX7_needs 18 = .ok (.aload_n 0, 1) := by decide +kernel
theorem dX7_needs_19 : decode cX7_needs 19 = .ok (.getfield 42, 3) := by decide +kernel
theorem dX7_needs_22 : decode cX7_needs 22 = .ok (.aload_n 0, 1) := by decide +kernel
theorem dX7_needs_23 : decode cX7_needs 23 = .ok (.getfield 10, 3) := by decide +kernel
theorem dX7_needs_26 : decode cX7_needs 26 = .ok (.invokevirtual 143, 3) := by decide +kernel
theorem dX7_needs_29 : decode cX7_needs 29 = .ok (.aload_n 0, 1) := by decide +kernel
theorem dX7_needs_30 : decode cX7_needs 30 = .ok (.getfield 42, 3) := by decide +kernel
theorem dX7_needs_33 : decode cX7_needs 33 = .ok (.iload_n 1, 1) := by decide +kernel
theorem dX7_needs_34 : decode cX7_needs 34 = .ok (.iload_n 2, 1) := by decide +kernel
theorem dX7_needs_35 : decode cX7_needs 35 = .ok (.bipush 60, 2) := by decide +kernel
theorem dX7_needs_37 : decode cX7_needs 37 = .ok (.invokevirtual 178, 3) := by decide +kernel
theorem dX7_needs_40 : decode cX7_needs 40 = .ok (.istore_n 3, 1) := by decide +kernel
theorem dX7_needs_41 : decode cX7_needs 41 = .ok (.aload_n 0, 1) := by decide +kernel
theorem dX7_needs_42 : decode cX7_needs 42 = .ok (.getfield 42, 3) := by decide +kernel
theorem dX7_needs_45 : decode cX7_needs 45 = .ok (.iload_n 2, 1) := by decide +kernel
theorem dX7_needs_46 : decode cX7_needs 46 = .ok (.invokevirtual 108, 3) := by decide +kernel
theorem dX7_needs_49 : decode cX7_needs 49 = .ok (.ifCond .eq 7, 3) := by decide +kernel
theorem dX7_needs_52 : decode cX7_needs 52 = .ok (.iload_n 3, 1) := by decide +kernel
theorem dX7_needs_53 : decode cX7_needs 53 = .ok (.goto 5, 3) := by decide +kernel
theorem dX7_needs_56 : decode cX7_needs 56 = .ok (.bipush (-4), 2) := by decide +kernel
theorem dX7_needs_58 : decode cX7_needs 58 = .ok (.ireturn, 1) := by decide +kernel
set_option maxRecDepth 20000 in
theorem ggX7_sends_X7_within : GoodIn wsX7_sends wsX7_within := goodIn_r _ [11] (by decide +kernel) (by decide +kernel)
set_option maxRecDepth 20000 in
theorem gX7_sends_X7_within : GoodIn wsX7_sends (va_wsS RX7 71 yX7_within wsX7_within) := goodIn_app (goodIn_of _ (by decide +kernel)) ggX7_sends_X7_within
set_option maxRecDepth 20000 in
theorem ggX7_sends_X4_plan : GoodIn wsX7_sends wsX4_plan := goodIn_r _ [16, 17, 18, 19, 20, 21, 22, 23, 24, 15, 25, 26, 27, 28, 29, 30, 31, 32, 33, 34, 35, 36, 37, 38, 39, 40, 41, 42, 43, 44, 45, 46, 47, 48, 49, 50, 51, 52, 53, 54, 55, 56, 57, 58, 59, 60, 61, 62, 63, 64, 65, 66, 67, 68, 69, 70, 71, 72, 73, 74, 75, 76, 77, 78, 79, 80, 81, 82, 83, 84, 85, 86, 87, 88, 89, 90, 91, 92, 93, 94, 95, 96, 97, 98, 123, 124, 125, 126, 127, 128, 111, 112, 113, 114, 115, 116, 117, 118, 119, 120, 121, 122] (by decide +kernel) (by decide +kernel)
set_option maxRecDepth 20000 in
theorem gX7_sends_X4_plan : GoodIn wsX7_sends (wsV RX7 197 RX4 yX4_plan wsX4_plan) := goodIn_app (goodIn_of _ (by decide +kernel)) ggX7_sends_X4_plan
theorem dX7_sends_0 : decode cX7_sends 0 = .ok (.iload_n 1, 1) := by decide +kernel
theorem dX7_sends_1 : decode cX7_sends 1 = .ok (.iconst 0, 1) := by decide +kernel
theorem dX7_sends_2 : decode cX7_sends 2 = .ok (.bipush 30, 2) := by decide +kernel
theorem dX7_sends_4 : decode cX7_sends 4 = .ok (.invokestatic 71, 3) := by decide +kernel
theorem dX7_sends_7 : decode cX7_sends 7 = .ok (.ifCond .eq 8, 3) := by decide +kernel
theorem dX7_sends_10 : decode cX7_sends 10 = .ok (.iload_n 2, 1) := by decide +kernel
theorem dX7_sends_11 : decode cX7_sends 11 = .ok (.iconst (-1), 1) := by decide +kernel
theorem dX7_sends_12 : decode cX7_sends 12 = .ok (.if_icmp .ge 5, 3) := by decide +kernel
theorem dX7_sends_15 : decode cX7_sends 15 = .ok (.iconst (-1), 1) := by decide +kernel
theorem dX7_sends_16 : decode cX7_sends 16 = .ok (.ireturn, 1) := by decide +kernel
theorem dX7_sends_17 : decode cX7_sends 17 = .ok (.aload_n 0, 1) := by decide +kernel
theorem dX7_sends_18 : decode cX7_sends 18 = .ok (.getfield 10, 3) := by decide +kernel
theorem dX7_sends_21 : decode cX7_sends 21 = .ok (.getfield 75, 3) := by decide +kernel
theorem dX7_sends_24 : decode cX7_sends 24 = .ok (.iconst 1, 1) := by decide +kernel
theorem dX7_sends_25 : decode cX7_sends 25 = .ok (.if_icmp .ge 14, 3) := by decide +kernel
theorem dX7_sends_28 : decode cX7_sends 28 = .ok (.iload_n 2, 1) := by decide +kernel
theorem dX7_sends_29 : decode cX7_sends 29 = .ok (.ifCond .ge 7, 3) := by decide +kernel
theorem dX7_sends_32 : decode cX7_sends 32 = .ok (.iconst 0, 1) := by decide +kernel
theorem dX7_sends_33 : decode cX7_sends 33 = .ok (.goto 5, 3) := by decide +kernel
theorem dX7_sends_36 : decode cX7_sends 36 = .ok (.bipush (-4), 2) := by decide +kernel
theorem dX7_sends_38 : decode cX7_sends 38 = .ok (.ireturn, 1) := by decide +kernel
theorem dX7_sends_39 : decode cX7_sends 39 = .ok (.iload_n 2, 1) := by decide +kernel
theorem dX7_sends_40 : decode cX7_sends 40 = .ok (.aload_n 0, 1) := by decide +kernel
theorem dX7_sends_41 : decode cX7_sends 41 = .ok (.getfield 10, 3) := by decide +kernel
theorem dX7_sends_44 : decode cX7_sends 44 = .ok (.getfield 86, 3) := by decide +kernel
theorem dX7_sends_47 : decode cX7_sends 47 = .ok (.if_icmp .lt 6, 3) := by decide +kernel
theorem dX7_sends_50 : decode cX7_sends 50 = .ok (.bipush (-4), 2) := by decide +kernel
theorem dX7_sends_52 : decode cX7_sends 52 = .ok (.ireturn, 1) := by decide +kernel
theorem dX7_sends_53 : decode cX7_sends 53 = .ok (.aload_n 0, 1) := by decide +kernel
theorem dX7_sends_54 : decode cX7_sends 54 = .ok (.getfield 48, 3) := by decide +kernel
theorem dX7_sends_57 : decode cX7_sends 57 = .ok (.aload_n 0, 1) := by decide +kernel
theorem dX7_sends_58 : decode cX7_sends 58 = .ok (.getfield 10, 3) := by decide +kernel
theorem dX7_sends_61 : decode cX7_sends 61 = .ok (.aload_n 0, 1) := by decide +kernel
theorem dX7_sends_62 : decode cX7_sends 62 = .ok (.getfield 42, 3) := by decide +kernel
theorem dX7_sends_65 : decode cX7_sends 65 = .ok (.iload_n 1, 1) := by decide +kernel
theorem dX7_sends_66 : decode cX7_sends 66 = .ok (.invokevirtual 197, 3) := by decide +kernel
theorem dX7_sends_69 : decode cX7_sends 69 = .ok (.iload_n 2, 1) := by decide +kernel
theorem dX7_sends_70 : decode cX7_sends 70 = .ok (.ifCond .ge 13, 3) := by decide +kernel
theorem dX7_sends_73 : decode cX7_sends 73 = .ok (.aload_n 0, 1) := by decide +kernel
theorem dX7_sends_74 : decode cX7_sends 74 = .ok (.getfield 48, 3) := by decide +kernel
theorem dX7_sends_77 : decode cX7_sends 77 = .ok (.getfield 201, 3) := by decide +kernel
theorem dX7_sends_80 : decode cX7_sends 80 = .ok (.goto 12, 3) := by decide +kernel
theorem dX7_sends_83 : decode cX7_sends 83 = .ok (.aload_n 0, 1) := by decide +kernel
theorem dX7_sends_84 : decode cX7_sends 84 = .ok (.getfield 48, 3) := by decide +kernel
theorem dX7_sends_87 : decode cX7_sends 87 = .ok (.getfield 204, 3) := by decide +kernel
theorem dX7_sends_90 : decode cX7_sends 90 = .ok (.iload_n 2, 1) := by decide +kernel
theorem dX7_sends_91 : decode cX7_sends 91 = .ok (.iaload, 1) := by decide +kernel
theorem dX7_sends_92 : decode cX7_sends 92 = .ok (.ireturn, 1) := by decide +kernel
set_option maxRecDepth 20000 in
theorem ggX7_round_X7_hasMonk : GoodIn wsX7_round wsX7_hasMonk := goodIn_r _ [10, 1, 11, 115, 116, 117, 118, 119, 120, 121, 122, 123, 124, 125, 126, 131, 132, 133, 134, 135, 136, 137, 138, 139, 140, 141, 142] (by decide +kernel) (by decide +kernel)
set_option maxRecDepth 20000 in
theorem gX7_round_X7_hasMonk : GoodIn wsX7_round (wsV RX7 118 RX7 yX7_hasMonk wsX7_hasMonk) := goodIn_app (goodIn_of _ (by decide +kernel)) ggX7_round_X7_hasMonk
set_option maxRecDepth 20000 in
theorem ggX7_round_X2_openMarks : GoodIn wsX7_round wsX2_openMarks := goodIn_r _ [16, 17, 18, 19, 20, 15, 21, 22, 23, 24, 25, 26, 27, 28, 29, 30, 31, 32, 131, 132, 133, 134, 135, 136, 137, 138, 139, 140, 141, 142] (by decide +kernel) (by decide +kernel)
set_option maxRecDepth 20000 in
theorem gX7_round_X2_openMarks : GoodIn wsX7_round (wsV RX7 207 RX2 yX2_openMarks wsX2_openMarks) := goodIn_app (goodIn_of _ (by decide +kernel)) ggX7_round_X2_openMarks
set_option maxRecDepth 20000 in
theorem ggX7_round_X3_plan : GoodIn wsX7_round wsX3_plan := goodIn_r _ [37, 38, 39, 40, 41, 42, 15, 43, 17, 44, 45, 46, 47, 26, 48, 49, 50, 51, 52, 27, 32, 53, 54, 55, 56, 13, 14, 16, 18, 19, 20, 21, 22, 23, 24, 25, 28, 29, 30, 31, 57, 58, 59, 60, 61, 62, 63, 64, 65, 66, 67, 68, 69, 70, 36, 71, 72, 73, 74, 75, 76, 77, 78, 79, 80, 81, 82, 83, 84, 85, 86, 87, 88, 89, 90, 91, 92, 93, 94, 95, 96, 97, 98, 99, 100, 101, 102, 103, 104, 105, 106, 107, 108, 109, 110, 111, 112, 113, 114, 127, 128, 129, 130, 131, 132, 133, 134, 135, 136, 137, 138, 139, 140, 141, 142] (by decide +kernel) (by decide +kernel)
set_option maxRecDepth 20000 in
theorem gX7_round_X3_plan : GoodIn wsX7_round (wsV RX7 210 RX3 yX3_plan wsX3_plan) := goodIn_app (goodIn_of _ (by decide +kernel)) ggX7_round_X3_plan
theorem dX7_round_0 : decode cX7_round 0 = .ok (.aload_n 0, 1) := by decide +kernel
theorem dX7_round_1 : decode cX7_round 1 = .ok (.iload_n 1, 1) := by decide +kernel
theorem dX7_round_2 : decode cX7_round 2 = .ok (.invokevirtual 118, 3) := by decide +kernel
theorem dX7_round_5 : decode cX7_round 5 = .ok (.ifCond .eq 8, 3) := by decide +kernel
theorem dX7_round_8 : decode cX7_round 8 = .ok (.iload_n 2, 1) := by decide +kernel
theorem dX7_round_9 : decode cX7_round 9 = .ok (.iconst (-1), 1) := by decide +kernel
theorem dX7_round_10 : decode cX7_round 10 = .ok (.if_icmp .ge 5, 3) := by decide +kernel
theorem dX7_round_13 : decode cX7_round 13 = .ok (.iconst (-1), 1) := by decide +kernel
theorem dX7_round_14 : decode cX7_round 14 = .ok (.ireturn, 1) := by decide +kernel
theorem dX7_round_15 : decode cX7_round 15 = .ok (.iload_n 2, 1) := by decide +kernel
theorem dX7_round_16 : decode cX7_round 16 = .ok (.aload_n 0, 1) := by decide +kernel
theorem dX7_round_17 : decode cX7_round 17 = .ok (.getfield 10, 3) := by decide +kernel
theorem dX7_round_20 : decode cX7_round 20 = .ok (.invokevirtual 207, 3) := by decide +kernel
theorem dX7_round_23 : decode cX7_round 23 = .ok (.if_icmp .lt 6, 3) := by decide +kernel
theorem dX7_round_26 : decode cX7_round 26 = .ok (.bipush (-4), 2) := by decide +kernel
theorem dX7_round_28 : decode cX7_round 28 = .ok (.ireturn, 1) := by decide +kernel
theorem dX7_round_29 : decode cX7_round 29 = .ok (.aload_n 0, 1) := by decide +kernel
theorem dX7_round_30 : decode cX7_round 30 = .ok (.getfield 55, 3) := by decide +kernel
theorem dX7_round_33 : decode cX7_round 33 = .ok (.aload_n 0, 1) := by decide +kernel
theorem dX7_round_34 : decode cX7_round 34 = .ok (.getfield 10, 3) := by decide +kernel
theorem dX7_round_37 : decode cX7_round 37 = .ok (.aload_n 0, 1) := by decide +kernel
theorem dX7_round_38 : decode cX7_round 38 = .ok (.getfield 42, 3) := by decide +kernel
theorem dX7_round_41 : decode cX7_round 41 = .ok (.iload_n 1, 1) := by decide +kernel
theorem dX7_round_42 : decode cX7_round 42 = .ok (.invokevirtual 210, 3) := by decide +kernel
theorem dX7_round_45 : decode cX7_round 45 = .ok (.iload_n 2, 1) := by decide +kernel
theorem dX7_round_46 : decode cX7_round 46 = .ok (.ifCond .ge 13, 3) := by decide +kernel
theorem dX7_round_49 : decode cX7_round 49 = .ok (.aload_n 0, 1) := by decide +kernel
theorem dX7_round_50 : decode cX7_round 50 = .ok (.getfield 55, 3) := by decide +kernel
theorem dX7_round_53 : decode cX7_round 53 = .ok (.getfield 211, 3) := by decide +kernel
theorem dX7_round_56 : decode cX7_round 56 = .ok (.goto 12, 3) := by decide +kernel
theorem dX7_round_59 : decode cX7_round 59 = .ok (.aload_n 0, 1) := by decide +kernel
theorem dX7_round_60 : decode cX7_round 60 = .ok (.getfield 55, 3) := by decide +kernel
theorem dX7_round_63 : decode cX7_round 63 = .ok (.getfield 212, 3) := by decide +kernel
theorem dX7_round_66 : decode cX7_round 66 = .ok (.iload_n 2, 1) := by decide +kernel
theorem dX7_round_67 : decode cX7_round 67 = .ok (.iaload, 1) := by decide +kernel
theorem dX7_round_68 : decode cX7_round 68 = .ok (.ireturn, 1) := by decide +kernel
set_option maxRecDepth 20000 in
theorem ggX7_pair_X7_hasMark : GoodIn wsX7_pair wsX7_hasMark := goodIn_r _ [12, 2, 13, 102, 103, 104, 105, 106, 107, 108, 109, 110, 111, 112, 113, 118, 119, 120, 121, 122, 123, 124, 125, 126, 127, 128, 129] (by decide +kernel) (by decide +kernel)
set_option maxRecDepth 20000 in
theorem gX7_pair_X7_hasMark : GoodIn wsX7_pair (wsV RX7 92 RX7 yX7_hasMark wsX7_hasMark) := goodIn_app (goodIn_of _ (by decide +kernel)) ggX7_pair_X7_hasMark
set_option maxRecDepth 20000 in
theorem ggX7_pair_X7_within : GoodIn wsX7_pair wsX7_within := goodIn_r _ [16] (by decide +kernel) (by decide +kernel)
set_option maxRecDepth 20000 in
theorem gX7_pair_X7_within : GoodIn wsX7_pair (va_wsS RX7 71 yX7_within wsX7_within) := goodIn_app (goodIn_of _ (by decide +kernel)) ggX7_pair_X7_within
set_option maxRecDepth 20000 in
theorem ggX7_pair_X1_plan : GoodIn wsX7_pair wsX1_plan := goodIn_r _ [21, 22, 23, 24, 25, 26, 20, 27, 28, 29, 30, 31, 32, 33, 34, 35, 36, 37, 38, 39, 40, 41, 42, 43, 44, 45, 46, 47, 48, 49, 50, 51, 52, 53, 54, 55, 56, 57, 58, 59, 60, 61, 62, 63, 64, 65, 66, 67, 68, 69, 70, 71, 72, 73, 74, 75, 76, 77, 78, 79, 80, 81, 82, 83, 84, 85, 86, 87, 88, 89, 90, 91, 92, 93, 94, 95, 96, 97, 98, 99, 100, 101, 114, 115, 116, 117, 118, 119, 120, 121, 122, 123, 124, 125, 126, 127, 128, 129] (by decide +kernel) (by decide +kernel)
set_option maxRecDepth 20000 in
theorem gX7_pair_X1_plan : GoodIn wsX7_pair (wsV RX7 213 RX1 yX1_plan wsX1_plan) := goodIn_app (goodIn_of _ (by decide +kernel)) ggX7_pair_X1_plan
theorem dX7_pair_0 : decode cX7_pair 0 = .ok (.aload_n 0, 1) := by decide +kernel
theorem dX7_pair_1 : decode cX7_pair 1 = .ok (.iload_n 1, 1) := by decide +kernel
theorem dX7_pair_2 : decode cX7_pair 2 = .ok (.invokevirtual 92, 3) := by decide +kernel
theorem dX7_pair_5 : decode cX7_pair 5 = .ok (.ifCond .eq 12, 3) := by decide +kernel
theorem dX7_pair_8 : decode cX7_pair 8 = .ok (.iload_n 2, 1) := by decide +kernel
theorem dX7_pair_9 : decode cX7_pair 9 = .ok (.iconst 0, 1) := by decide +kernel
theorem dX7_pair_10 : decode cX7_pair 10 = .ok (.iconst 2, 1) := by decide +kernel
theorem dX7_pair_11 : decode cX7_pair 11 = .ok (.invokestatic 71, 3) := by decide +kernel
theorem dX7_pair_14 : decode cX7_pair 14 = .ok (.ifCond .ne 5, 3) := by decide +kernel
theorem dX7_pair_17 : decode cX7_pair 17 = .ok (.iconst (-1), 1) := by decide +kernel
theorem dX7_pair_18 : decode cX7_pair 18 = .ok (.ireturn, 1) := by decide +kernel
theorem dX7_pair_19 : decode cX7_pair 19 = .ok (.aload_n 0, 1) := by decide +kernel
theorem dX7_pair_20 : decode cX7_pair 20 = .ok (.getfield 62, 3) := by decide +kernel
theorem dX7_pair_23 : decode cX7_pair 23 = .ok (.aload_n 0, 1) := by decide +kernel
theorem dX7_pair_24 : decode cX7_pair 24 = .ok (.getfield 10, 3) := by decide +kernel
theorem dX7_pair_27 : decode cX7_pair 27 = .ok (.aload_n 0, 1) := by decide +kernel
theorem dX7_pair_28 : decode cX7_pair 28 = .ok (.getfield 42, 3) := by decide +kernel
theorem dX7_pair_31 : decode cX7_pair 31 = .ok (.iload_n 1, 1) := by decide +kernel
theorem dX7_pair_32 : decode cX7_pair 32 = .ok (.invokevirtual 213, 3) := by decide +kernel
theorem dX7_pair_35 : decode cX7_pair 35 = .ok (.aload_n 0, 1) := by decide +kernel
theorem dX7_pair_36 : decode cX7_pair 36 = .ok (.getfield 62, 3) := by decide +kernel
theorem dX7_pair_39 : decode cX7_pair 39 = .ok (.getfield 214, 3) := by decide +kernel
theorem dX7_pair_42 : decode cX7_pair 42 = .ok (.ifCond .ne 6, 3) := by decide +kernel
theorem dX7_pair_45 : decode cX7_pair 45 = .ok (.bipush (-4), 2) := by decide +kernel
theorem dX7_pair_47 : decode cX7_pair 47 = .ok (.ireturn, 1) := by decide +kernel
theorem dX7_pair_48 : decode cX7_pair 48 = .ok (.iload_n 2, 1) := by decide +kernel
theorem dX7_pair_49 : decode cX7_pair 49 = .ok (.lookupswitch 43 #[(0, 27), (1, 35)], 27) := by decide +kernel
theorem dX7_pair_76 : decode cX7_pair 76 = .ok (.aload_n 0, 1) := by decide +kernel
theorem dX7_pair_77 : decode cX7_pair 77 = .ok (.getfield 62, 3) := by decide +kernel
theorem dX7_pair_80 : decode cX7_pair 80 = .ok (.getfield 218, 3) := by decide +kernel
theorem dX7_pair_83 : decode cX7_pair 83 = .ok (.ireturn, 1) := by decide +kernel
theorem dX7_pair_84 : decode cX7_pair 84 = .ok (.aload_n 0, 1) := by decide +kernel
theorem dX7_pair_85 : decode cX7_pair 85 = .ok (.getfield 62, 3) := by decide +kernel
theorem dX7_pair_88 : decode cX7_pair 88 = .ok (.getfield 219, 3) := by decide +kernel
theorem dX7_pair_91 : decode cX7_pair 91 = .ok (.ireturn, 1) := by decide +kernel
theorem dX7_pair_92 : decode cX7_pair 92 = .ok (.aload_n 0, 1) := by decide +kernel
theorem dX7_pair_93 : decode cX7_pair 93 = .ok (.getfield 62, 3) := by decide +kernel
theorem dX7_pair_96 : decode cX7_pair 96 = .ok (.getfield 222, 3) := by decide +kernel
theorem dX7_pair_99 : decode cX7_pair 99 = .ok (.ireturn, 1) := by decide +kernel
set_option maxRecDepth 20000 in
theorem ggX7_small_X7_hasMonk : GoodIn wsX7_small wsX7_hasMonk := goodIn_r _ [8, 2, 9, 81, 82, 83, 84, 85, 86, 87, 88, 89, 90, 91, 92, 93, 94, 95, 96, 97, 98, 99, 100, 101, 102, 103, 104] (by decide +kernel) (by decide +kernel)
set_option maxRecDepth 20000 in
theorem gX7_small_X7_hasMonk : GoodIn wsX7_small (wsV RX7 118 RX7 yX7_hasMonk wsX7_hasMonk) := goodIn_app (goodIn_of _ (by decide +kernel)) ggX7_small_X7_hasMonk
set_option maxRecDepth 20000 in
theorem ggX7_small_X7_hasMark : GoodIn wsX7_small wsX7_hasMark := goodIn_r _ [13, 2, 14, 81, 82, 83, 84, 85, 86, 87, 88, 89, 90, 91, 92, 93, 94, 95, 96, 97, 98, 99, 100, 101, 102, 103, 104] (by decide +kernel) (by decide +kernel)
set_option maxRecDepth 20000 in
theorem gX7_small_X7_hasMark : GoodIn wsX7_small (wsV RX7 92 RX7 yX7_hasMark wsX7_hasMark) := goodIn_app (goodIn_of _ (by decide +kernel)) ggX7_small_X7_hasMark
set_option maxRecDepth 20000 in
theorem ggX7_small_X2_become : GoodIn wsX7_small wsX2_become := goodIn_r _ [19, 20, 21, 22, 23, 24, 25, 26, 27, 28, 29, 30, 31, 32, 33, 34, 35, 93, 94, 95, 96, 97, 98, 99, 100, 101, 102, 103, 104] (by decide +kernel) (by decide +kernel)
set_option maxRecDepth 20000 in
theorem gX7_small_X2_become : GoodIn wsX7_small (wsV RX7 143 RX2 yX2_become wsX2_become) := goodIn_app (goodIn_of _ (by decide +kernel)) ggX7_small_X2_become
set_option maxRecDepth 20000 in
theorem ggX7_small_X2_rubTimes : GoodIn wsX7_small wsX2_rubTimes := goodIn_r _ [39, 40, 41, 42, 18, 43, 34, 44, 45, 46, 47, 48, 49, 50, 51, 25, 31, 52, 53, 54, 55, 32, 56, 57, 58, 59, 33, 60, 61, 62, 63, 30, 64, 65, 66, 23, 67, 68, 69, 70, 71, 72, 73, 74, 75, 93, 94, 95, 96, 97, 98, 99, 100, 101, 102, 103, 104] (by decide +kernel) (by decide +kernel)
set_option maxRecDepth 20000 in
theorem gX7_small_X2_rubTimes : GoodIn wsX7_small (wsV RX7 178 RX2 yX2_rubTimes wsX2_rubTimes) := goodIn_app (goodIn_of _ (by decide +kernel)) ggX7_small_X2_rubTimes
set_option maxRecDepth 20000 in
theorem ggX7_small_X2_isGone : GoodIn wsX7_small wsX2_isGone := goodIn_r _ [51, 25, 31, 93, 94, 95, 96, 97, 98, 99, 100, 101, 102, 103, 104] (by decide +kernel) (by decide +kernel)
set_option maxRecDepth 20000 in
theorem gX7_small_X2_isGone : GoodIn wsX7_small (wsV RX7 108 RX2 yX2_isGone wsX2_isGone) := goodIn_app (goodIn_of _ (by decide +kernel)) ggX7_small_X2_isGone
set_option maxRecDepth 20000 in
theorem ggX7_small_X2_markAsIn : GoodIn wsX7_small wsX2_markAsIn := goodIn_r _ [80, 25, 30, 31, 32, 93, 94, 95, 96, 97, 98, 99, 100, 101, 102, 103, 104] (by decide +kernel) (by decide +kernel)
set_option maxRecDepth 20000 in
theorem gX7_small_X2_markAsIn : GoodIn wsX7_small (wsV RX7 225 RX2 yX2_markAsIn wsX2_markAsIn) := goodIn_app (goodIn_of _ (by decide +kernel)) ggX7_small_X2_markAsIn
theorem dX7_small_0 : decode cX7_small 0 = .ok (.aload_n 0, 1) := by decide +kernel
theorem dX7_small_1 : decode cX7_small 1 = .ok (.iload_n 1, 1) := by decide +kernel
theorem dX7_small_2 : decode cX7_small 2 = .ok (.invokevirtual 118, 3) := by decide +kernel
theorem dX7_small_5 : decode cX7_small 5 = .ok (.ifCond .eq 11, 3) := by decide +kernel
theorem dX7_small_8 : decode cX7_small 8 = .ok (.aload_n 0, 1) := by decide +kernel
theorem dX7_small_9 : decode cX7_small 9 = .ok (.iload_n 2, 1) := by decide +kernel
theorem dX7_small_10 : decode cX7_small 10 = .ok (.invokevirtual 92, 3) := by decide +kernel
theorem dX7_small_13 : decode cX7_small 13 = .ok (.ifCond .ne 5, 3) := by decide +kernel
theorem dX7_small_16 : decode cX7_small 16 = .ok (.iconst (-1), 1) := by decide +kernel
theorem dX7_small_17 : decode cX7_small 17 = .ok (.ireturn, 1) := by decide +kernel
theorem dX7_small_18 : decode cX7_small 18 = .ok (.aload_n 0, 1) := by decide +kernel
theorem dX7_small_19 : decode cX7_small 19 = .ok (.getfield 42, 3) := by decide +kernel
theorem dX7_small_22 : decode cX7_small 22 = .ok (.aload_n 0, 1) := by decide +kernel
theorem dX7_small_23 : decode cX7_small 23 = .ok (.getfield 10, 3) := by decide +kernel
theorem dX7_small_26 : decode cX7_small 26 = .ok (.invokevirtual 143, 3) := by decide +kernel
theorem dX7_small_29 : decode cX7_small 29 = .ok (.iconst 0, 1) := by decide +kernel
theorem dX7_small_30 : decode cX7_small 30 = .ok (.istore_n 3, 1) := by decide +kernel
theorem dX7_small_31 : decode cX7_small 31 = .ok (.iload_n 3, 1) := by decide +kernel
theorem dX7_small_32 : decode cX7_small 32 = .ok (.bipush 99, 2) := by decide +kernel
theorem dX7_small_34 : decode cX7_small 34 = .ok (.if_icmp .gt 56, 3) := by decide +kernel
theorem dX7_small_37 : decode cX7_small 37 = .ok (.aload_n 0, 1) := by decide +kernel
theorem dX7_small_38 : decode cX7_small 38 = .ok (.getfield 42, 3) := by decide +kernel
theorem dX7_small_41 : decode cX7_small 41 = .ok (.getfield 124, 3) := by decide +kernel
theorem dX7_small_44 : decode cX7_small 44 = .ok (.iload_n 1, 1) := by decide +kernel
theorem dX7_small_45 : decode cX7_small 45 = .ok (.iload_n 3, 1) := by decide +kernel
theorem dX7_small_46 : decode cX7_small 46 = .ok (.iastore, 1) := by decide +kernel
theorem dX7_small_47 : decode cX7_small 47 = .ok (.aload_n 0, 1) := by decide +kernel
theorem dX7_small_48 : decode cX7_small 48 = .ok (.getfield 42, 3) := by decide +kernel
theorem dX7_small_51 : decode cX7_small 51 = .ok (.iload_n 1, 1) := by decide +kernel
theorem dX7_small_52 : decode cX7_small 52 = .ok (.iload_n 2, 1) := by decide +kernel
theorem dX7_small_53 : decode cX7_small 53 = .ok (.bipush 60, 2) := by decide +kernel
theorem dX7_small_55 : decode cX7_small 55 = .ok (.invokevirtual 178, 3) := by decide +kernel
theorem dX7_small_58 : decode cX7_small 58 = .ok (.pop, 1) := by decide +kernel
theorem dX7_small_59 : decode cX7_small 59 = .ok (.aload_n 0, 1) := by decide +kernel
theorem dX7_small_60 : decode cX7_small 60 = .ok (.getfield 42, 3) := by decide +kernel
theorem dX7_small_63 : decode cX7_small 63 = .ok (.iload_n 2, 1) := by decide +kernel
theorem dX7_small_64 : decode cX7_small 64 = .ok (.invokevirtual 108, 3) := by decide +kernel
theorem dX7_small_67 : decode cX7_small 67 = .ok (.ifCond .eq 5, 3) := by decide +kernel
theorem dX7_small_70 : decode cX7_small 70 = .ok (.iload_n 3, 1) := by decide +kernel
theorem dX7_small_71 : decode cX7_small 71 = .ok (.ireturn, 1) := by decide +kernel
theorem dX7_small_72 : decode cX7_small 72 = .ok (.aload_n 0, 1) := by decide +kernel
theorem dX7_small_73 : decode cX7_small 73 = .ok (.getfield 42, 3) := by decide +kernel
theorem dX7_small_76 : decode cX7_small 76 = .ok (.aload_n 0, 1) := by decide +kernel
theorem dX7_small_77 : decode cX7_small 77 = .ok (.getfield 10, 3) := by decide +kernel
theorem dX7_small_80 : decode cX7_small 80 = .ok (.iload_n 2, 1) := by decide +kernel
theorem dX7_small_81 : decode cX7_small 81 = .ok (.invokevirtual 225, 3) := by decide +kernel
theorem dX7_small_84 : decode cX7_small 84 = .ok (.iinc 3 1, 3) := by decide +kernel
theorem dX7_small_87 : decode cX7_small 87 = .ok (.goto (-56), 3) := by decide +kernel
theorem dX7_small_90 : decode cX7_small 90 = .ok (.bipush (-4), 2) := by decide +kernel
theorem dX7_small_92 : decode cX7_small 92 = .ok (.ireturn, 1) := by decide +kernel
set_option maxRecDepth 20000 in
theorem ggX7_slip_X7_within : GoodIn wsX7_slip wsX7_within := goodIn_r _ [10] (by decide +kernel) (by decide +kernel)
set_option maxRecDepth 20000 in
theorem gX7_slip_X7_within : GoodIn wsX7_slip (va_wsS RX7 71 yX7_within wsX7_within) := goodIn_app (goodIn_of _ (by decide +kernel)) ggX7_slip_X7_within
set_option maxRecDepth 20000 in
theorem ggX7_slip_X7_chanceOf : GoodIn wsX7_slip wsX7_chanceOf := goodIn_r _ [14, 1, 15, 16, 17, 18, 19, 20, 21, 22, 23, 24, 25, 26, 27, 28, 29, 30, 31, 32, 33, 34, 35, 36, 37, 38, 39, 40, 41, 42, 43, 44, 45, 46, 47, 48, 49, 50, 51, 52, 53, 54, 55, 56, 57, 58, 59, 60, 61, 62, 63, 64, 65, 4, 5, 6, 66, 67, 68, 69, 70, 71, 72, 73, 74, 75, 76, 77, 78, 79, 80, 81, 82, 83, 84, 85, 86, 87, 88, 89, 90, 9, 91, 95, 96, 97, 98, 99, 100, 101, 102, 103, 104, 105, 106, 107, 108, 109, 110, 111, 112, 113, 114, 115, 116, 117, 118] (by decide +kernel) (by decide +kernel)
set_option maxRecDepth 20000 in
theorem gX7_slip_X7_chanceOf : GoodIn wsX7_slip (wsV RX7 229 RX7 yX7_chanceOf wsX7_chanceOf) := goodIn_app (goodIn_of _ (by decide +kernel)) ggX7_slip_X7_chanceOf
set_option maxRecDepth 20000 in
theorem ggX7_slip_X2_sentSet : GoodIn wsX7_slip wsX2_sentSet := goodIn_r _ [20, 21, 22, 107, 108, 109, 110, 111, 112, 113, 114, 115, 116, 117, 118] (by decide +kernel) (by decide +kernel)
set_option maxRecDepth 20000 in
theorem gX7_slip_X2_sentSet : GoodIn wsX7_slip (wsV RX7 232 RX2 yX2_sentSet wsX2_sentSet) := goodIn_app (goodIn_of _ (by decide +kernel)) ggX7_slip_X2_sentSet
set_option maxRecDepth 20000 in
theorem ggX7_slip_J6_bitCount_0f7a4 : GoodIn wsX7_slip wsJ6_bitCount_0f7a4 := goodIn_r _ [85, 86, 87, 88] (by decide +kernel) (by decide +kernel)
set_option maxRecDepth 20000 in
theorem gX7_slip_J6_bitCount_0f7a4 : GoodIn wsX7_slip (va_wsS RX7 235 yJ6_bitCount_0f7a4 wsJ6_bitCount_0f7a4) := goodIn_app (goodIn_of _ (by decide +kernel)) ggX7_slip_J6_bitCount_0f7a4
set_option maxRecDepth 20000 in
theorem ggX7_slip_X7_power : GoodIn wsX7_slip wsX7_power := goodIn_r _ [91] (by decide +kernel) (by decide +kernel)
set_option maxRecDepth 20000 in
theorem gX7_slip_X7_power : GoodIn wsX7_slip (va_wsS RX7 240 yX7_power wsX7_power) := goodIn_app (goodIn_of _ (by decide +kernel)) ggX7_slip_X7_power
set_option maxRecDepth 20000 in
theorem ggX7_slip_X7_commonDivisor : GoodIn wsX7_slip wsX7_commonDivisor := goodIn_r _ [94] (by decide +kernel) (by decide +kernel)
set_option maxRecDepth 20000 in
theorem gX7_slip_X7_commonDivisor : GoodIn wsX7_slip (va_wsS RX7 243 yX7_commonDivisor wsX7_commonDivisor) := goodIn_app (goodIn_of _ (by decide +kernel)) ggX7_slip_X7_commonDivisor
theorem dX7_slip_0 : decode cX7_slip 0 = .ok (.iload_n 1, 1) := by decide +kernel
theorem dX7_slip_1 : decode cX7_slip 1 = .ok (.iconst 0, 1) := by decide +kernel
theorem dX7_slip_2 : decode cX7_slip 2 = .ok (.bipush 6, 2) := by decide +kernel
theorem dX7_slip_4 : decode cX7_slip 4 = .ok (.invokestatic 71, 3) := by decide +kernel
theorem dX7_slip_7 : decode cX7_slip 7 = .ok (.ifCond .eq 22, 3) := by decide +kernel
theorem dX7_slip_10 : decode cX7_slip 10 = .ok (.iload_n 2, 1) := by decide +kernel
theorem dX7_slip_11 : decode cX7_slip 11 = .ok (.iconst 0, 1) := by decide +kernel
theorem dX7_slip_12 : decode cX7_slip 12 = .ok (.bipush 10, 2) := by decide +kernel
theorem dX7_slip_14 : decode cX7_slip 14 = .ok (.invokestatic 71, 3) := by decide +kernel
theorem dX7_slip_17 : decode cX7_slip 17 = .ok (.ifCond .eq 12, 3) := by decide +kernel
theorem dX7_slip_20 : decode cX7_slip 20 = .ok (.iload_n 3, 1) := by decide +kernel
theorem dX7_slip_21 : decode cX7_slip 21 = .ok (.iconst 0, 1) := by decide +kernel
theorem dX7_slip_22 : decode cX7_slip 22 = .ok (.iconst 1, 1) := by decide +kernel
theorem dX7_slip_23 : decode cX7_slip 23 = .ok (.invokestatic 71, 3) := by decide +kernel
theorem dX7_slip_26 : decode cX7_slip 26 = .ok (.ifCond .ne 5, 3) := by decide +kernel
theorem dX7_slip_29 : decode cX7_slip 29 = .ok (.iconst (-1), 1) := by decide +kernel
theorem dX7_slip_30 : decode cX7_slip 30 = .ok (.ireturn, 1) := by decide +kernel
theorem dX7_slip_31 : decode cX7_slip 31 = .ok (.iconst 0, 1) := by decide +kernel
theorem dX7_slip_32 : decode cX7_slip 32 = .ok (.istore 4, 2) := by decide +kernel
theorem dX7_slip_34 : decode cX7_slip 34 = .ok (.iconst 1, 1) := by decide +kernel
theorem dX7_slip_35 : decode cX7_slip 35 = .ok (.aload_n 0, 1) := by decide +kernel
theorem dX7_slip_36 : decode cX7_slip 36 = .ok (.getfield 10, 3) := by decide +kernel
theorem dX7_slip_39 : decode cX7_slip 39 = .ok (.getfield 86, 3) := by decide +kernel
theorem dX7_slip_42 : decode cX7_slip 42 = .ok (.ishl, 1) := by decide +kernel
theorem dX7_slip_43 : decode cX7_slip 43 = .ok (.istore 5, 2) := by decide +kernel
theorem dX7_slip_45 : decode cX7_slip 45 = .ok (.iconst 0, 1) := by decide +kernel
theorem dX7_slip_46 : decode cX7_slip 46 = .ok (.istore 6, 2) := by decide +kernel
theorem dX7_slip_48 : decode cX7_slip 48 = .ok (.iload 6, 2) := by decide +kernel
theorem dX7_slip_50 : decode cX7_slip 50 = .ok (.iload 5, 2) := by decide +kernel
theorem dX7_slip_52 : decode cX7_slip 52 = .ok (.if_icmp .ge 22, 3) := by decide +kernel
theorem dX7_slip_55 : decode cX7_slip 55 = .ok (.iload 4, 2) := by decide +kernel
theorem dX7_slip_57 : decode cX7_slip 57 = .ok (.aload_n 0, 1) := by decide +kernel
theorem dX7_slip_58 : decode cX7_slip 58 = .ok (.iload 6, 2) := by decide +kernel
theorem dX7_slip_60 : decode cX7_slip 60 = .ok (.iload_n 1, 1) := by decide +kernel
theorem dX7_slip_61 : decode cX7_slip 61 = .ok (.iload_n 2, 1) := by decide +kernel
theorem dX7_slip_62 : decode cX7_slip 62 = .ok (.invokevirtual 229, 3) := by decide +kernel
theorem dX7_slip_65 : decode cX7_slip 65 = .ok (.iadd, 1) := by decide +kernel
theorem dX7_slip_66 : decode cX7_slip 66 = .ok (.istore 4, 2) := by decide +kernel
theorem dX7_slip_68 : decode cX7_slip 68 = .ok (.iinc 6 1, 3) := by decide +kernel
theorem dX7_slip_71 : decode cX7_slip 71 = .ok (.goto (-23), 3) := by decide +kernel
theorem dX7_slip_74 : decode cX7_slip 74 = .ok (.bipush 10, 2) := by decide +kernel
theorem dX7_slip_76 : decode cX7_slip 76 = .ok (.aload_n 0, 1) := by decide +kernel
theorem dX7_slip_77 : decode cX7_slip 77 = .ok (.getfield 10, 3) := by decide +kernel
theorem dX7_slip_80 : decode cX7_slip 80 = .ok (.invokevirtual 232, 3) := by decide +kernel
theorem dX7_slip_83 : decode cX7_slip 83 = .ok (.invokestatic 235, 3) := by decide +kernel
theorem dX7_slip_86 : decode cX7_slip 86 = .ok (.invokestatic 240, 3) := by decide +kernel
theorem dX7_slip_89 : decode cX7_slip 89 = .ok (.istore 6, 2) := by decide +kernel
theorem dX7_slip_91 : decode cX7_slip 91 = .ok (.iconst 1, 1) := by decide +kernel
theorem dX7_slip_92 : decode cX7_slip 92 = .ok (.iload 4, 2) := by decide +kernel
theorem dX7_slip_94 : decode cX7_slip 94 = .ok (.iload 6, 2) := by decide +kernel
theorem dX7_slip_96 : decode cX7_slip 96 = .ok (.invokestatic 243, 3) := by decide +kernel
theorem dX7_slip_99 : decode cX7_slip 99 = .ok (.invokestatic 246, 3) := by decide +kernel
theorem dX7_slip_102 : decode cX7_slip 102 = .ok (.istore 7, 2) := by decide +kernel
theorem dX7_slip_104 : decode cX7_slip 104 = .ok (.iload_n 3, 1) := by decide +kernel
theorem dX7_slip_105 : decode cX7_slip 105 = .ok (.ifCond .ne 11, 3) := by decide +kernel
theorem dX7_slip_108 : decode cX7_slip 108 = .ok (.iload 4, 2) := by decide +kernel
theorem dX7_slip_110 : decode cX7_slip 110 = .ok (.iload 7, 2) := by decide +kernel
theorem dX7_slip_112 : decode cX7_slip 112 = .ok (.idiv, 1) := by decide +kernel
theorem dX7_slip_113 : decode cX7_slip 113 = .ok (.goto 8, 3) := by decide +kernel
theorem dX7_slip_116 : decode cX7_slip 116 = .ok (.iload 6, 2) := by decide +kernel
theorem dX7_slip_118 : decode cX7_slip 118 = .ok (.iload 7, 2) := by decide +kernel
theorem dX7_slip_120 : decode cX7_slip 120 = .ok (.idiv, 1) := by decide +kernel
theorem dX7_slip_121 : decode cX7_slip 121 = .ok (.ireturn, 1) := by decide +kernel
set_option maxRecDepth 20000 in
theorem ggX7_image_X2_become : GoodIn wsX7_image wsX2_become := goodIn_r _ [10, 11, 12, 13, 14, 15, 16, 17, 18, 19, 20, 21, 22, 23, 24, 25, 26, 48, 49, 50, 51, 52, 53, 54, 55, 56, 57, 58, 59] (by decide +kernel) (by decide +kernel)
set_option maxRecDepth 20000 in
theorem gX7_image_X2_become : GoodIn wsX7_image (wsV RX7 143 RX2 yX2_become wsX2_become) := goodIn_app (goodIn_of _ (by decide +kernel)) ggX7_image_X2_become
set_option maxRecDepth 20000 in
theorem ggX7_image_X0_become : GoodIn wsX7_image wsX0_become := goodIn_r _ [31, 32, 33, 34, 35, 7, 8, 9, 10, 11, 12, 13, 14, 15, 16, 17, 18, 19, 20, 21, 22, 23, 24, 25, 26, 60, 61, 62, 48, 49, 50, 51, 52, 53, 54, 55, 56, 57, 58, 59] (by decide +kernel) (by decide +kernel)
set_option maxRecDepth 20000 in
theorem gX7_image_X0_become : GoodIn wsX7_image (wsV RX7 249 RX0 yX0_become wsX0_become) := goodIn_app (goodIn_of _ (by decide +kernel)) ggX7_image_X0_become
theorem dX7_image_0 : decode cX7_image 0 = .ok (.aload_n 0, 1) := by decide +kernel
theorem dX7_image_1 : decode cX7_image 1 = .ok (.getfield 23, 3) := by decide +kernel
theorem dX7_image_4 : decode cX7_image 4 = .ok (.aload_n 0, 1) := by decide +kernel
theorem dX7_image_5 : decode cX7_image 5 = .ok (.getfield 10, 3) := by decide +kernel
theorem dX7_image_8 : decode cX7_image 8 = .ok (.invokevirtual 143, 3) := by decide +kernel
theorem dX7_image_11 : decode cX7_image 11 = .ok (.aload_n 0, 1) := by decide +kernel
theorem dX7_image_12 : decode cX7_image 12 = .ok (.getfield 26, 3) := by decide +kernel
theorem dX7_image_15 : decode cX7_image 15 = .ok (.aload_n 0, 1) := by decide +kernel
theorem dX7_image_16 : decode cX7_image 16 = .ok (.getfield 19, 3) := by decide +kernel
theorem dX7_image_19 : decode cX7_image 19 = .ok (.invokevirtual 249, 3) := by decide +kernel
theorem dX7_image_22 : decode cX7_image 22 = .ok (.aload_n 0, 1) := by decide +kernel
theorem dX7_image_23 : decode cX7_image 23 = .ok (.iconst 1, 1) := by decide +kernel
theorem dX7_image_24 : decode cX7_image 24 = .ok (.putfield 252, 3) := by decide +kernel
theorem dX7_image_27 : decode cX7_image 27 = .ok (.iconst 1, 1) := by decide +kernel
theorem dX7_image_28 : decode cX7_image 28 = .ok (.ireturn, 1) := by decide +kernel
set_option maxRecDepth 20000 in
theorem ggX7_restore_X2_become : GoodIn wsX7_restore wsX2_become := goodIn_r _ [10, 11, 12, 13, 14, 15, 16, 17, 18, 19, 20, 21, 22, 23, 24, 25, 26, 48, 49, 50, 51, 52, 53, 54, 55, 56, 57, 58, 59] (by decide +kernel) (by decide +kernel)
set_option maxRecDepth 20000 in
theorem gX7_restore_X2_become : GoodIn wsX7_restore (wsV RX7 143 RX2 yX2_become wsX2_become) := goodIn_app (goodIn_of _ (by decide +kernel)) ggX7_restore_X2_become
set_option maxRecDepth 20000 in
theorem ggX7_restore_X0_become : GoodIn wsX7_restore wsX0_become := goodIn_r _ [31, 32, 33, 34, 35, 7, 8, 9, 10, 11, 12, 13, 14, 15, 16, 17, 18, 19, 20, 21, 22, 23, 24, 25, 26, 60, 61, 62, 48, 49, 50, 51, 52, 53, 54, 55, 56, 57, 58, 59] (by decide +kernel) (by decide +kernel)
set_option maxRecDepth 20000 in
theorem gX7_restore_X0_become : GoodIn wsX7_restore (wsV RX7 249 RX0 yX0_become wsX0_become) := goodIn_app (goodIn_of _ (by decide +kernel)) ggX7_restore_X0_become
theorem dX7_restore_0 : decode cX7_restore 0 = .ok (.aload_n 0, 1) := by decide +kernel
theorem dX7_restore_1 : decode cX7_restore 1 = .ok (.getfield 252, 3) := by decide +kernel
theorem dX7_restore_4 : decode cX7_restore 4 = .ok (.ifCond .ne 6, 3) := by decide +kernel
theorem dX7_restore_7 : decode cX7_restore 7 = .ok (.bipush (-4), 2) := by decide +kernel
theorem dX7_restore_9 : decode cX7_restore 9 = .ok (.ireturn, 1) := by decide +kernel
theorem dX7_restore_10 : decode cX7_restore 10 = .ok (.aload_n 0, 1) := by decide +kernel
theorem dX7_restore_11 : decode cX7_restore 11 = .ok (.getfield 10, 3) := by decide +kernel
theorem dX7_restore_14 : decode cX7_restore 14 = .ok (.aload_n 0, 1) := by decide +kernel
theorem dX7_restore_15 : decode cX7_restore 15 = .ok (.getfield 23, 3) := by decide +kernel
theorem dX7_restore_18 : decode cX7_restore 18 = .ok (.invokevirtual 143, 3) := by decide +kernel
theorem dX7_restore_21 : decode cX7_restore 21 = .ok (.aload_n 0, 1) := by decide +kernel
theorem dX7_restore_22 : decode cX7_restore 22 = .ok (.getfield 19, 3) := by decide +kernel
theorem dX7_restore_25 : decode cX7_restore 25 = .ok (.aload_n 0, 1) := by decide +kernel
theorem dX7_restore_26 : decode cX7_restore 26 = .ok (.getfield 26, 3) := by decide +kernel
theorem dX7_restore_29 : decode cX7_restore 29 = .ok (.invokevirtual 249, 3) := by decide +kernel
theorem dX7_restore_32 : decode cX7_restore 32 = .ok (.iconst 1, 1) := by decide +kernel
theorem dX7_restore_33 : decode cX7_restore 33 = .ok (.ireturn, 1) := by decide +kernel
set_option maxRecDepth 20000 in
theorem ggX7_worn_X7_hasMonk : GoodIn wsX7_worn wsX7_hasMonk := goodIn_r _ [8, 2, 9, 106, 107, 108, 109, 110, 111, 112, 113, 114, 115, 116, 117, 118, 119, 120, 121, 122, 123, 124, 125, 126, 127, 128, 129] (by decide +kernel) (by decide +kernel)
set_option maxRecDepth 20000 in
theorem gX7_worn_X7_hasMonk : GoodIn wsX7_worn (wsV RX7 118 RX7 yX7_hasMonk wsX7_hasMonk) := goodIn_app (goodIn_of _ (by decide +kernel)) ggX7_worn_X7_hasMonk
set_option maxRecDepth 20000 in
theorem ggX7_worn_X7_isSheet : GoodIn wsX7_worn wsX7_isSheet := goodIn_r _ [12, 13, 14, 7, 15] (by decide +kernel) (by decide +kernel)
set_option maxRecDepth 20000 in
theorem gX7_worn_X7_isSheet : GoodIn wsX7_worn (va_wsS RX7 255 yX7_isSheet wsX7_isSheet) := goodIn_app (goodIn_of _ (by decide +kernel)) ggX7_worn_X7_isSheet
set_option maxRecDepth 20000 in
theorem ggX7_worn_X7_within : GoodIn wsX7_worn wsX7_within := goodIn_r _ [15] (by decide +kernel) (by decide +kernel)
set_option maxRecDepth 20000 in
theorem gX7_worn_X7_within : GoodIn wsX7_worn (va_wsS RX7 71 yX7_within wsX7_within) := goodIn_app (goodIn_of _ (by decide +kernel)) ggX7_worn_X7_within
set_option maxRecDepth 20000 in
theorem ggX7_worn_X7_lookAt : GoodIn wsX7_worn wsX7_lookAt := goodIn_r _ [19, 1, 20, 21, 22, 23, 24, 25, 26, 27, 106, 107, 108, 109, 110, 111, 112, 113, 114, 115, 116, 117, 130, 131, 132, 133] (by decide +kernel) (by decide +kernel)
set_option maxRecDepth 20000 in
theorem gX7_worn_X7_lookAt : GoodIn wsX7_worn (wsV RX7 258 RX7 yX7_lookAt wsX7_lookAt) := goodIn_app (goodIn_of _ (by decide +kernel)) ggX7_worn_X7_lookAt
set_option maxRecDepth 20000 in
theorem ggX7_worn_X7_kindsOfRow : GoodIn wsX7_worn wsX7_kindsOfRow := goodIn_r _ [31, 32, 2, 33, 34, 35, 36, 37, 38, 39, 40, 41, 42, 43, 44, 45, 46, 47, 48, 49, 50, 51, 52, 53, 54, 55, 56, 57, 7, 58, 59, 60, 61, 62, 63, 64, 65, 66, 67, 68, 69, 70, 71, 72, 73, 74, 75, 76, 77, 78, 79, 80, 81, 82, 83, 84, 85, 86, 87, 88, 89, 90, 91, 92, 93, 94, 95, 96, 97, 98, 99, 100, 106, 107, 108, 109, 110, 111, 112, 113, 114, 115, 116, 117, 118, 119, 120, 121, 122, 123, 124, 125, 126, 127, 128, 129, 130, 131, 132, 133] (by decide +kernel) (by decide +kernel)
set_option maxRecDepth 20000 in
theorem gX7_worn_X7_kindsOfRow : GoodIn wsX7_worn (wsV RX7 262 RX7 yX7_kindsOfRow wsX7_kindsOfRow) := goodIn_app (goodIn_of _ (by decide +kernel)) ggX7_worn_X7_kindsOfRow
set_option maxRecDepth 20000 in
theorem ggX7_worn_X7_hardsOfRow : GoodIn wsX7_worn wsX7_hardsOfRow := goodIn_r _ [104, 2, 3, 32, 105, 34, 35, 36, 37, 38, 39, 40, 41, 42, 43, 44, 45, 46, 47, 48, 49, 50, 51, 52, 53, 54, 55, 56, 57, 7, 58, 59, 60, 61, 62, 63, 64, 65, 66, 67, 68, 69, 70, 71, 72, 73, 74, 75, 76, 77, 78, 79, 80, 81, 82, 83, 84, 85, 86, 87, 88, 89, 90, 91, 92, 93, 94, 95, 96, 97, 98, 99, 100, 106, 107, 108, 109, 110, 111, 112, 113, 114, 115, 116, 117, 118, 119, 120, 121, 122, 123, 124, 125, 126, 127, 128, 129, 130, 131, 132, 133] (by decide +kernel) (by decide +kernel)
set_option maxRecDepth 20000 in
theorem gX7_worn_X7_hardsOfRow : GoodIn wsX7_worn (wsV RX7 266 RX7 yX7_hardsOfRow wsX7_hardsOfRow) := goodIn_app (goodIn_of _ (by decide +kernel)) ggX7_worn_X7_hardsOfRow
theorem dX7_worn_0 : decode cX7_worn 0 = .ok (.aload_n 0, 1) := by decide +kernel
theorem dX7_worn_1 : decode cX7_worn 1 = .ok (.iload_n 1, 1) := by decide +kernel
theorem dX7_worn_2 : decode cX7_worn 2 = .ok (.invokevirtual 118, 3) := by decide +kernel
theorem dX7_worn_5 : decode cX7_worn 5 = .ok (.ifCond .eq 32, 3) := by decide +kernel
theorem dX7_worn_8 : decode cX7_worn 8 = .ok (.iload_n 2, 1) := by decide +kernel
theorem dX7_worn_9 : decode cX7_worn 9 = .ok (.iload_n 3, 1) := by decide +kernel
theorem dX7_worn_10 : decode cX7_worn 10 = .ok (.invokestatic 255, 3) := by decide +kernel
theorem dX7_worn_13 : decode cX7_worn 13 = .ok (.ifCond .eq 24, 3) := by decide +kernel
theorem dX7_worn_16 : decode cX7_worn 16 = .ok (.iload 5, 2) := by decide +kernel
theorem dX7_worn_18 : decode cX7_worn 18 = .ok (.iconst 1, 1) := by decide +kernel
theorem dX7_worn_19 : decode cX7_worn 19 = .ok (.bipush 8, 2) := by decide +kernel
theorem dX7_worn_21 : decode cX7_worn 21 = .ok (.invokestatic 71, 3) := by decide +kernel
theorem dX7_worn_24 : decode cX7_worn 24 = .ok (.ifCond .eq 13, 3) := by decide +kernel
theorem dX7_worn_27 : decode cX7_worn 27 = .ok (.iload 6, 2) := by decide +kernel
theorem dX7_worn_29 : decode cX7_worn 29 = .ok (.iconst 0, 1) := by decide +kernel
theorem dX7_worn_30 : decode cX7_worn 30 = .ok (.iconst 1, 1) := by decide +kernel
theorem dX7_worn_31 : decode cX7_worn 31 = .ok (.invokestatic 71, 3) := by decide +kernel
theorem dX7_worn_34 : decode cX7_worn 34 = .ok (.ifCond .ne 5, 3) := by decide +kernel
theorem dX7_worn_37 : decode cX7_worn 37 = .ok (.iconst (-1), 1) := by decide +kernel
theorem dX7_worn_38 : decode cX7_worn 38 = .ok (.ireturn, 1) := by decide +kernel
theorem dX7_worn_39 : decode cX7_worn 39 = .ok (.aload_n 0, 1) := by decide +kernel
theorem dX7_worn_40 : decode cX7_worn 40 = .ok (.iload_n 2, 1) := by decide +kernel
theorem dX7_worn_41 : decode cX7_worn 41 = .ok (.iload_n 3, 1) := by decide +kernel
theorem dX7_worn_42 : decode cX7_worn 42 = .ok (.iload 4, 2) := by decide +kernel
theorem dX7_worn_44 : decode cX7_worn 44 = .ok (.iload 5, 2) := by decide +kernel
theorem dX7_worn_46 : decode cX7_worn 46 = .ok (.invokevirtual 258, 3) := by decide +kernel
theorem dX7_worn_49 : decode cX7_worn 49 = .ok (.istore 7, 2) := by decide +kernel
theorem dX7_worn_51 : decode cX7_worn 51 = .ok (.iload 7, 2) := by decide +kernel
theorem dX7_worn_53 : decode cX7_worn 53 = .ok (.ifCond .ge 6, 3) := by decide +kernel
theorem dX7_worn_56 : decode cX7_worn 56 = .ok (.iload 7, 2) := by decide +kernel
theorem dX7_worn_58 : decode cX7_worn 58 = .ok (.ireturn, 1) := by decide +kernel
theorem dX7_worn_59 : decode cX7_worn 59 = .ok (.iload 6, 2) := by decide +kernel
theorem dX7_worn_61 : decode cX7_worn 61 = .ok (.ifCond .ne 19, 3) := by decide +kernel
theorem dX7_worn_64 : decode cX7_worn 64 = .ok (.aload_n 0, 1) := by decide +kernel
theorem dX7_worn_65 : decode cX7_worn 65 = .ok (.iload_n 1, 1) := by decide +kernel
theorem dX7_worn_66 : decode cX7_worn 66 = .ok (.aload_n 0, 1) := by decide +kernel
theorem dX7_worn_67 : decode cX7_worn 67 = .ok (.getfield 38, 3) := by decide +kernel
theorem dX7_worn_70 : decode cX7_worn 70 = .ok (.iload_n 2, 1) := by decide +kernel
theorem dX7_worn_71 : decode cX7_worn 71 = .ok (.aaload, 1) := by decide +kernel
theorem dX7_worn_72 : decode cX7_worn 72 = .ok (.iload 4, 2) := by decide +kernel
theorem dX7_worn_74 : decode cX7_worn 74 = .ok (.iload 5, 2) := by decide +kernel
theorem dX7_worn_76 : decode cX7_worn 76 = .ok (.invokevirtual 262, 3) := by decide +kernel
theorem dX7_worn_79 : decode cX7_worn 79 = .ok (.ireturn, 1) := by decide +kernel
theorem dX7_worn_80 : decode cX7_worn 80 = .ok (.aload_n 0, 1) := by decide +kernel
theorem dX7_worn_81 : decode cX7_worn 81 = .ok (.getfield 10, 3) := by decide +kernel
theorem dX7_worn_84 : decode cX7_worn 84 = .ok (.getfield 127, 3) := by decide +kernel
theorem dX7_worn_87 : decode cX7_worn 87 = .ok (.iload_n 1, 1) := by decide +kernel
theorem dX7_worn_88 : decode cX7_worn 88 = .ok (.iaload, 1) := by decide +kernel
theorem dX7_worn_89 : decode cX7_worn 89 = .ok (.ifCond .ge 8, 3) := by decide +kernel
theorem dX7_worn_92 : decode cX7_worn 92 = .ok (.bipush (-2), 2) := by decide +kernel
theorem dX7_worn_94 : decode cX7_worn 94 = .ok (.goto 18, 3) := by decide +kernel
theorem dX7_worn_97 : decode cX7_worn 97 = .ok (.aload_n 0, 1) := by decide +kernel
theorem dX7_worn_98 : decode cX7_worn 98 = .ok (.iload_n 1, 1) := by decide +kernel
theorem dX7_worn_99 : decode cX7_worn 99 = .ok (.aload_n 0, 1) := by decide +kernel
theorem dX7_worn_100 : decode cX7_worn 100 = .ok (.getfield 38, 3) := by decide +kernel
theorem dX7_worn_103 : decode cX7_worn 103 = .ok (.iload_n 2, 1) := by decide +kernel
theorem dX7_worn_104 : decode cX7_worn 104 = .ok (.aaload, 1) := by decide +kernel
theorem dX7_worn_105 : decode cX7_worn 105 = .ok (.iload 4, 2) := by decide +kernel
theorem dX7_worn_107 : decode cX7_worn 107 = .ok (.iload 5, 2) := by decide +kernel
theorem dX7_worn_109 : decode cX7_worn 109 = .ok (.invokevirtual 266, 3) := by decide +kernel
theorem dX7_worn_112 : decode cX7_worn 112 = .ok (.ireturn, 1) := by decide +kernel
set_option maxRecDepth 20000 in
theorem ggX7_swept_X7_within : GoodIn wsX7_swept wsX7_within := goodIn_r _ [7] (by decide +kernel) (by decide +kernel)
set_option maxRecDepth 20000 in
theorem gX7_swept_X7_within : GoodIn wsX7_swept (va_wsS RX7 71 yX7_within wsX7_within) := goodIn_app (goodIn_of _ (by decide +kernel)) ggX7_swept_X7_within
set_option maxRecDepth 20000 in
theorem ggX7_swept_X7_isSheet : GoodIn wsX7_swept wsX7_isSheet := goodIn_r _ [10, 4, 5, 6, 7] (by decide +kernel) (by decide +kernel)
set_option maxRecDepth 20000 in
theorem gX7_swept_X7_isSheet : GoodIn wsX7_swept (va_wsS RX7 255 yX7_isSheet wsX7_isSheet) := goodIn_app (goodIn_of _ (by decide +kernel)) ggX7_swept_X7_isSheet
set_option maxRecDepth 20000 in
theorem ggX7_swept_X7_lookAt : GoodIn wsX7_swept wsX7_lookAt := goodIn_r _ [14, 1, 15, 16, 17, 18, 19, 20, 21, 22, 29, 30, 31, 32, 33, 34, 35, 36, 37, 38, 39, 40, 41, 42, 43, 44] (by decide +kernel) (by decide +kernel)
set_option maxRecDepth 20000 in
theorem gX7_swept_X7_lookAt : GoodIn wsX7_swept (wsV RX7 258 RX7 yX7_lookAt wsX7_lookAt) := goodIn_app (goodIn_of _ (by decide +kernel)) ggX7_swept_X7_lookAt
set_option maxRecDepth 20000 in
theorem ggX7_swept_X7_waysTogether : GoodIn wsX7_swept wsX7_waysTogether := goodIn_r _ [26, 27, 28, 29, 30, 31, 32, 33, 34, 35, 36, 37, 38, 39, 40] (by decide +kernel) (by decide +kernel)
set_option maxRecDepth 20000 in
theorem gX7_swept_X7_waysTogether : GoodIn wsX7_swept (wsV RX7 275 RX7 yX7_waysTogether wsX7_waysTogether) := goodIn_app (goodIn_of _ (by decide +kernel)) ggX7_swept_X7_waysTogether
theorem dX7_swept_0 : decode cX7_swept 0 = .ok (.iload_n 1, 1) := by decide +kernel
theorem dX7_swept_1 : decode cX7_swept 1 = .ok (.iconst 0, 1) := by decide +kernel
theorem dX7_swept_2 : decode cX7_swept 2 = .ok (.bipush 99, 2) := by decide +kernel
theorem dX7_swept_4 : decode cX7_swept 4 = .ok (.invokestatic 71, 3) := by decide +kernel
theorem dX7_swept_7 : decode cX7_swept 7 = .ok (.ifCond .eq 21, 3) := by decide +kernel
theorem dX7_swept_10 : decode cX7_swept 10 = .ok (.iload_n 2, 1) := by decide +kernel
theorem dX7_swept_11 : decode cX7_swept 11 = .ok (.iload_n 3, 1) := by decide +kernel
theorem dX7_swept_12 : decode cX7_swept 12 = .ok (.invokestatic 255, 3) := by decide +kernel
theorem dX7_swept_15 : decode cX7_swept 15 = .ok (.ifCond .eq 13, 3) := by decide +kernel
theorem dX7_swept_18 : decode cX7_swept 18 = .ok (.iload 5, 2) := by decide +kernel
theorem dX7_swept_20 : decode cX7_swept 20 = .ok (.iconst 1, 1) := by decide +kernel
theorem dX7_swept_21 : decode cX7_swept 21 = .ok (.iconst 5, 1) := by decide +kernel
theorem dX7_swept_22 : decode cX7_swept 22 = .ok (.invokestatic 71, 3) := by decide +kernel
theorem dX7_swept_25 : decode cX7_swept 25 = .ok (.ifCond .ne 5, 3) := by decide +kernel
theorem dX7_swept_28 : decode cX7_swept 28 = .ok (.iconst (-1), 1) := by decide +kernel
theorem dX7_swept_29 : decode cX7_swept 29 = .ok (.ireturn, 1) := by decide +kernel
theorem dX7_swept_30 : decode cX7_swept 30 = .ok (.aload_n 0, 1) := by decide +kernel
theorem dX7_swept_31 : decode cX7_swept 31 = .ok (.iload_n 2, 1) := by decide +kernel
theorem dX7_swept_32 : decode cX7_swept 32 = .ok (.iload_n 3, 1) := by decide +kernel
theorem dX7_swept_33 : decode cX7_swept 33 = .ok (.iload 4, 2) := by decide +kernel
theorem dX7_swept_35 : decode cX7_swept 35 = .ok (.iload 5, 2) := by decide +kernel
theorem dX7_swept_37 : decode cX7_swept 37 = .ok (.invokevirtual 258, 3) := by decide +kernel
theorem dX7_swept_40 : decode cX7_swept 40 = .ok (.istore 6, 2) := by decide +kernel
theorem dX7_swept_42 : decode cX7_swept 42 = .ok (.iload 6, 2) := by decide +kernel
theorem dX7_swept_44 : decode cX7_swept 44 = .ok (.ifCond .ge 6, 3) := by decide +kernel
theorem dX7_swept_47 : decode cX7_swept 47 = .ok (.iload 6, 2) := by decide +kernel
theorem dX7_swept_49 : decode cX7_swept 49 = .ok (.ireturn, 1) := by decide +kernel
theorem dX7_swept_50 : decode cX7_swept 50 = .ok (.aload_n 0, 1) := by decide +kernel
theorem dX7_swept_51 : decode cX7_swept 51 = .ok (.getfield 38, 3) := by decide +kernel
theorem dX7_swept_54 : decode cX7_swept 54 = .ok (.iload_n 2, 1) := by decide +kernel
theorem dX7_swept_55 : decode cX7_swept 55 = .ok (.aaload, 1) := by decide +kernel
theorem dX7_swept_56 : decode cX7_swept 56 = .ok (.getfield 269, 3) := by decide +kernel
theorem dX7_swept_59 : decode cX7_swept 59 = .ok (.astore 7, 2) := by decide +kernel
theorem dX7_swept_61 : decode cX7_swept 61 = .ok (.iload 4, 2) := by decide +kernel
theorem dX7_swept_63 : decode cX7_swept 63 = .ok (.istore 8, 2) := by decide +kernel
theorem dX7_swept_65 : decode cX7_swept 65 = .ok (.iload 8, 2) := by decide +kernel
theorem dX7_swept_67 : decode cX7_swept 67 = .ok (.iload 4, 2) := by decide +kernel
theorem dX7_swept_69 : decode cX7_swept 69 = .ok (.iload 5, 2) := by decide +kernel
theorem dX7_swept_71 : decode cX7_swept 71 = .ok (.iadd, 1) := by decide +kernel
theorem dX7_swept_72 : decode cX7_swept 72 = .ok (.if_icmp .ge 34, 3) := by decide +kernel
theorem dX7_swept_75 : decode cX7_swept 75 = .ok (.aload 7, 2) := by decide +kernel
theorem dX7_swept_77 : decode cX7_swept 77 = .ok (.iload 8, 2) := by decide +kernel
theorem dX7_swept_79 : decode cX7_swept 79 = .ok (.laload, 1) := by decide +kernel
theorem dX7_swept_80 : decode cX7_swept 80 = .ok (.lconst 1, 1) := by decide +kernel
theorem dX7_swept_81 : decode cX7_swept 81 = .ok (.lcmp, 1) := by decide +kernel
theorem dX7_swept_82 : decode cX7_swept 82 = .ok (.ifCond .lt 15, 3) := by decide +kernel
theorem dX7_swept_85 : decode cX7_swept 85 = .ok (.aload 7, 2) := by decide +kernel
theorem dX7_swept_87 : decode cX7_swept 87 = .ok (.iload 8, 2) := by decide +kernel
theorem dX7_swept_89 : decode cX7_swept 89 = .ok (.laload, 1) := by decide +kernel
theorem dX7_swept_90 : decode cX7_swept 90 = .ok (.ldc2_w 273, 3) := by decide +kernel
theorem dX7_swept_93 : decode cX7_swept 93 = .ok (.lcmp, 1) := by decide +kernel
theorem dX7_swept_94 : decode cX7_swept 94 = .ok (.ifCond .le 6, 3) := by decide +kernel
theorem dX7_swept_97 : decode cX7_swept 97 = .ok (.bipush (-2), 2) := by decide +kernel
theorem dX7_swept_99 : decode cX7_swept 99 = .ok (.ireturn, 1) := by decide +kernel
theorem dX7_swept_100 : decode cX7_swept 100 = .ok (.iinc 8 1, 3) := by decide +kernel
theorem dX7_swept_103 : decode cX7_swept 103 = .ok (.goto (-38), 3) := by decide +kernel
theorem dX7_swept_106 : decode cX7_swept 106 = .ok (.aload_n 0, 1) := by decide +kernel
theorem dX7_swept_107 : decode cX7_swept 107 = .ok (.iload_n 1, 1) := by decide +kernel
theorem dX7_swept_108 : decode cX7_swept 108 = .ok (.aload 7, 2) := by decide +kernel
theorem dX7_swept_110 : decode cX7_swept 110 = .ok (.iload 4, 2) := by decide +kernel
theorem dX7_swept_112 : decode cX7_swept 112 = .ok (.iload 5, 2) := by decide +kernel
theorem dX7_swept_114 : decode cX7_swept 114 = .ok (.invokevirtual 275, 3) := by decide +kernel
theorem dX7_swept_117 : decode cX7_swept 117 = .ok (.ireturn, 1) := by decide +kernel
set_option maxRecDepth 20000 in
theorem ggX7_film_X7_hasMonk : GoodIn wsX7_film wsX7_hasMonk := goodIn_r _ [9, 2, 10, 96, 97, 98, 99, 100, 101, 102, 103, 104, 105, 106, 107, 108, 109, 110, 111, 112, 113, 114, 115, 116, 117, 118, 119] (by decide +kernel) (by decide +kernel)
set_option maxRecDepth 20000 in
theorem gX7_film_X7_hasMonk : GoodIn wsX7_film (wsV RX7 118 RX7 yX7_hasMonk wsX7_hasMonk) := goodIn_app (goodIn_of _ (by decide +kernel)) ggX7_film_X7_hasMonk
set_option maxRecDepth 20000 in
theorem ggX7_film_X7_within : GoodIn wsX7_film wsX7_within := goodIn_r _ [13] (by decide +kernel) (by decide +kernel)
set_option maxRecDepth 20000 in
theorem gX7_film_X7_within : GoodIn wsX7_film (va_wsS RX7 71 yX7_within wsX7_within) := goodIn_app (goodIn_of _ (by decide +kernel)) ggX7_film_X7_within
set_option maxRecDepth 20000 in
theorem ggX7_film_X7_isSheet : GoodIn wsX7_film wsX7_isSheet := goodIn_r _ [16, 11, 12, 8, 13] (by decide +kernel) (by decide +kernel)
set_option maxRecDepth 20000 in
theorem gX7_film_X7_isSheet : GoodIn wsX7_film (va_wsS RX7 255 yX7_isSheet wsX7_isSheet) := goodIn_app (goodIn_of _ (by decide +kernel)) ggX7_film_X7_isSheet
set_option maxRecDepth 20000 in
theorem ggX7_film_X7_lookAt : GoodIn wsX7_film wsX7_lookAt := goodIn_r _ [20, 3, 21, 22, 23, 24, 25, 26, 27, 28, 96, 97, 98, 99, 100, 101, 102, 103, 104, 105, 106, 107, 120, 121, 122, 123] (by decide +kernel) (by decide +kernel)
set_option maxRecDepth 20000 in
theorem gX7_film_X7_lookAt : GoodIn wsX7_film (wsV RX7 258 RX7 yX7_lookAt wsX7_lookAt) := goodIn_app (goodIn_of _ (by decide +kernel)) ggX7_film_X7_lookAt
set_option maxRecDepth 20000 in
theorem ggX7_film_X2_become : GoodIn wsX7_film wsX2_become := goodIn_r _ [33, 34, 35, 36, 37, 38, 39, 40, 41, 42, 43, 44, 45, 46, 47, 48, 49, 108, 109, 110, 111, 112, 113, 114, 115, 116, 117, 118, 119] (by decide +kernel) (by decide +kernel)
set_option maxRecDepth 20000 in
theorem gX7_film_X2_become : GoodIn wsX7_film (wsV RX7 143 RX2 yX2_become wsX2_become) := goodIn_app (goodIn_of _ (by decide +kernel)) ggX7_film_X2_become
set_option maxRecDepth 20000 in
theorem ggX7_film_X2_passDay : GoodIn wsX7_film wsX2_passDay := goodIn_r _ [53, 35, 49, 36, 54, 55, 56, 32, 57, 48, 58, 59, 60, 61, 62, 63, 64, 65, 39, 45, 66, 67, 68, 69, 46, 70, 71, 72, 73, 47, 74, 75, 76, 77, 44, 78, 79, 80, 37, 81, 82, 83, 84, 85, 86, 87, 88, 89, 108, 109, 110, 111, 112, 113, 114, 115, 116, 117, 118, 119] (by decide +kernel) (by decide +kernel)
set_option maxRecDepth 20000 in
theorem gX7_film_X2_passDay : GoodIn wsX7_film (wsV RX7 194 RX2 yX2_passDay wsX2_passDay) := goodIn_app (goodIn_of _ (by decide +kernel)) ggX7_film_X2_passDay
set_option maxRecDepth 20000 in
theorem ggX7_film_X5_write : GoodIn wsX7_film wsX5_write := goodIn_r _ [93, 94, 95, 120, 121, 122, 123] (by decide +kernel) (by decide +kernel)
set_option maxRecDepth 20000 in
theorem gX7_film_X5_write : GoodIn wsX7_film (wsV RX7 279 RX5 yX5_write wsX5_write) := goodIn_app (goodIn_of _ (by decide +kernel)) ggX7_film_X5_write
theorem dX7_film_0 : decode cX7_film 0 = .ok (.aload_n 0, 1) := by decide +kernel
theorem dX7_film_1 : decode cX7_film 1 = .ok (.iload_n 1, 1) := by decide +kernel
theorem dX7_film_2 : decode cX7_film 2 = .ok (.invokevirtual 118, 3) := by decide +kernel
theorem dX7_film_5 : decode cX7_film 5 = .ok (.ifCond .eq 22, 3) := by decide +kernel
theorem dX7_film_8 : decode cX7_film 8 = .ok (.iload_n 2, 1) := by decide +kernel
theorem dX7_film_9 : decode cX7_film 9 = .ok (.iconst 1, 1) := by decide +kernel
theorem dX7_film_10 : decode cX7_film 10 = .ok (.bipush 24, 2) := by decide +kernel
theorem dX7_film_12 : decode cX7_film 12 = .ok (.invokestatic 71, 3) := by decide +kernel
theorem dX7_film_15 : decode cX7_film 15 = .ok (.ifCond .eq 12, 3) := by decide +kernel
theorem dX7_film_18 : decode cX7_film 18 = .ok (.iload_n 3, 1) := by decide +kernel
theorem dX7_film_19 : decode cX7_film 19 = .ok (.iload 4, 2) := by decide +kernel
theorem dX7_film_21 : decode cX7_film 21 = .ok (.invokestatic 255, 3) := by decide +kernel
theorem dX7_film_24 : decode cX7_film 24 = .ok (.ifCond .ne 5, 3) := by decide +kernel
theorem dX7_film_27 : decode cX7_film 27 = .ok (.iconst (-1), 1) := by decide +kernel
theorem dX7_film_28 : decode cX7_film 28 = .ok (.ireturn, 1) := by decide +kernel
theorem dX7_film_29 : decode cX7_film 29 = .ok (.aload_n 0, 1) := by decide +kernel
theorem dX7_film_30 : decode cX7_film 30 = .ok (.iload_n 3, 1) := by decide +kernel
theorem dX7_film_31 : decode cX7_film 31 = .ok (.iload 4, 2) := by decide +kernel
theorem dX7_film_33 : decode cX7_film 33 = .ok (.iload 5, 2) := by decide +kernel
theorem dX7_film_35 : decode cX7_film 35 = .ok (.iload_n 2, 1) := by decide +kernel
theorem dX7_film_36 : decode cX7_film 36 = .ok (.invokevirtual 258, 3) := by decide +kernel
theorem dX7_film_39 : decode cX7_film 39 = .ok (.istore 6, 2) := by decide +kernel
theorem dX7_film_41 : decode cX7_film 41 = .ok (.iload 6, 2) := by decide +kernel
theorem dX7_film_43 : decode cX7_film 43 = .ok (.ifCond .ge 6, 3) := by decide +kernel
theorem dX7_film_46 : decode cX7_film 46 = .ok (.iload 6, 2) := by decide +kernel
theorem dX7_film_48 : decode cX7_film 48 = .ok (.ireturn, 1) := by decide +kernel
theorem dX7_film_49 : decode cX7_film 49 = .ok (.aload_n 0, 1) := by decide +kernel
theorem dX7_film_50 : decode cX7_film 50 = .ok (.getfield 42, 3) := by decide +kernel
theorem dX7_film_53 : decode cX7_film 53 = .ok (.aload_n 0, 1) := by decide +kernel
theorem dX7_film_54 : decode cX7_film 54 = .ok (.getfield 10, 3) := by decide +kernel
theorem dX7_film_57 : decode cX7_film 57 = .ok (.invokevirtual 143, 3) := by decide +kernel
theorem dX7_film_60 : decode cX7_film 60 = .ok (.iconst 0, 1) := by decide +kernel
theorem dX7_film_61 : decode cX7_film 61 = .ok (.istore 7, 2) := by decide +kernel
theorem dX7_film_63 : decode cX7_film 63 = .ok (.iload 7, 2) := by decide +kernel
theorem dX7_film_65 : decode cX7_film 65 = .ok (.iload_n 2, 1) := by decide +kernel
theorem dX7_film_66 : decode cX7_film 66 = .ok (.if_icmp .ge 41, 3) := by decide +kernel
theorem dX7_film_69 : decode cX7_film 69 = .ok (.aload_n 0, 1) := by decide +kernel
theorem dX7_film_70 : decode cX7_film 70 = .ok (.getfield 42, 3) := by decide +kernel
theorem dX7_film_73 : decode cX7_film 73 = .ok (.iconst 0, 1) := by decide +kernel
theorem dX7_film_74 : decode cX7_film 74 = .ok (.invokevirtual 194, 3) := by decide +kernel
theorem dX7_film_77 : decode cX7_film 77 = .ok (.aload_n 0, 1) := by decide +kernel
theorem dX7_film_78 : decode cX7_film 78 = .ok (.getfield 38, 3) := by decide +kernel
theorem dX7_film_81 : decode cX7_film 81 = .ok (.iload_n 3, 1) := by decide +kernel
theorem dX7_film_82 : decode cX7_film 82 = .ok (.aaload, 1) := by decide +kernel
theorem dX7_film_83 : decode cX7_film 83 = .ok (.iload 5, 2) := by decide +kernel
theorem dX7_film_85 : decode cX7_film 85 = .ok (.iload 7, 2) := by decide +kernel
theorem dX7_film_87 : decode cX7_film 87 = .ok (.iadd, 1) := by decide +kernel
theorem dX7_film_88 : decode cX7_film 88 = .ok (.aload_n 0, 1) := by decide +kernel
theorem dX7_film_89 : decode cX7_film 89 = .ok (.getfield 42, 3) := by decide +kernel
theorem dX7_film_92 : decode cX7_film 92 = .ok (.getfield 124, 3) := by decide +kernel
theorem dX7_film_95 : decode cX7_film 95 = .ok (.iload_n 1, 1) := by decide +kernel
theorem dX7_film_96 : decode cX7_film 96 = .ok (.iaload, 1) := by decide +kernel
theorem dX7_film_97 : decode cX7_film 97 = .ok (.i2l, 1) := by decide +kernel
theorem dX7_film_98 : decode cX7_film 98 = .ok (.invokevirtual 279, 3) := by decide +kernel
theorem dX7_film_101 : decode cX7_film 101 = .ok (.iinc 7 1, 3) := by decide +kernel
theorem dX7_film_104 : decode cX7_film 104 = .ok (.goto (-41), 3) := by decide +kernel
theorem dX7_film_107 : decode cX7_film 107 = .ok (.iload_n 2, 1) := by decide +kernel
theorem dX7_film_108 : decode cX7_film 108 = .ok (.ireturn, 1) := by decide +kernel
set_option maxRecDepth 20000 in
theorem ggX7_sheet_X7_isSheet : GoodIn wsX7_sheet wsX7_isSheet := goodIn_r _ [5, 6, 7, 4, 8] (by decide +kernel) (by decide +kernel)
set_option maxRecDepth 20000 in
theorem gX7_sheet_X7_isSheet : GoodIn wsX7_sheet (va_wsS RX7 255 yX7_isSheet wsX7_isSheet) := goodIn_app (goodIn_of _ (by decide +kernel)) ggX7_sheet_X7_isSheet
set_option maxRecDepth 20000 in
theorem ggX7_sheet_X5_hold : GoodIn wsX7_sheet wsX5_hold := goodIn_r _ [13, 14, 15, 16, 17, 30, 31, 32, 33] (by decide +kernel) (by decide +kernel)
set_option maxRecDepth 20000 in
theorem gX7_sheet_X5_hold : GoodIn wsX7_sheet (wsV RX7 283 RX5 yX5_hold wsX5_hold) := goodIn_app (goodIn_of _ (by decide +kernel)) ggX7_sheet_X5_hold
theorem dX7_sheet_0 : decode cX7_sheet 0 = .ok (.iload_n 1, 1) := by decide +kernel
theorem dX7_sheet_1 : decode cX7_sheet 1 = .ok (.iload_n 2, 1) := by decide +kernel
theorem dX7_sheet_2 : decode cX7_sheet 2 = .ok (.invokestatic 255, 3) := by decide +kernel
theorem dX7_sheet_5 : decode cX7_sheet 5 = .ok (.ifCond .eq 9, 3) := by decide +kernel
theorem dX7_sheet_8 : decode cX7_sheet 8 = .ok (.iload_n 3, 1) := by decide +kernel
theorem dX7_sheet_9 : decode cX7_sheet 9 = .ok (.bipush 24, 2) := by decide +kernel
theorem dX7_sheet_11 : decode cX7_sheet 11 = .ok (.if_icmp .le 5, 3) := by decide +kernel
theorem dX7_sheet_14 : decode cX7_sheet 14 = .ok (.iconst (-1), 1) := by decide +kernel
theorem dX7_sheet_15 : decode cX7_sheet 15 = .ok (.ireturn, 1) := by decide +kernel
theorem dX7_sheet_16 : decode cX7_sheet 16 = .ok (.iload_n 3, 1) := by decide +kernel
theorem dX7_sheet_17 : decode cX7_sheet 17 = .ok (.ifCond .ge 6, 3) := by decide +kernel
theorem dX7_sheet_20 : decode cX7_sheet 20 = .ok (.bipush (-14), 2) := by decide +kernel
theorem dX7_sheet_22 : decode cX7_sheet 22 = .ok (.ireturn, 1) := by decide +kernel
theorem dX7_sheet_23 : decode cX7_sheet 23 = .ok (.aload_n 0, 1) := by decide +kernel
theorem dX7_sheet_24 : decode cX7_sheet 24 = .ok (.getfield 38, 3) := by decide +kernel
theorem dX7_sheet_27 : decode cX7_sheet 27 = .ok (.iload_n 1, 1) := by decide +kernel
theorem dX7_sheet_28 : decode cX7_sheet 28 = .ok (.aaload, 1) := by decide +kernel
theorem dX7_sheet_29 : decode cX7_sheet 29 = .ok (.iload_n 2, 1) := by decide +kernel
theorem dX7_sheet_30 : decode cX7_sheet 30 = .ok (.iload_n 3, 1) := by decide +kernel
theorem dX7_sheet_31 : decode cX7_sheet 31 = .ok (.invokevirtual 283, 3) := by decide +kernel
theorem dX7_sheet_34 : decode cX7_sheet 34 = .ok (.iload_n 3, 1) := by decide +kernel
theorem dX7_sheet_35 : decode cX7_sheet 35 = .ok (.ireturn, 1) := by decide +kernel
set_option maxRecDepth 20000 in
theorem ggX7_drop_X7_within : GoodIn wsX7_drop wsX7_within := goodIn_r _ [7] (by decide +kernel) (by decide +kernel)
set_option maxRecDepth 20000 in
theorem gX7_drop_X7_within : GoodIn wsX7_drop (va_wsS RX7 71 yX7_within wsX7_within) := goodIn_app (goodIn_of _ (by decide +kernel)) ggX7_drop_X7_within
theorem dX7_drop_0 : decode cX7_drop 0 = .ok (.iload_n 1, 1) := by decide +kernel
theorem dX7_drop_1 : decode cX7_drop 1 = .ok (.iconst 0, 1) := by decide +kernel
theorem dX7_drop_2 : decode cX7_drop 2 = .ok (.iconst 3, 1) := by decide +kernel
theorem dX7_drop_3 : decode cX7_drop 3 = .ok (.invokestatic 71, 3) := by decide +kernel
theorem dX7_drop_6 : decode cX7_drop 6 = .ok (.ifCond .ne 5, 3) := by decide +kernel
theorem dX7_drop_9 : decode cX7_drop 9 = .ok (.iconst (-1), 1) := by decide +kernel
theorem dX7_drop_10 : decode cX7_drop 10 = .ok (.ireturn, 1) := by decide +kernel
theorem dX7_drop_11 : decode cX7_drop 11 = .ok (.aload_n 0, 1) := by decide +kernel
theorem dX7_drop_12 : decode cX7_drop 12 = .ok (.getfield 38, 3) := by decide +kernel
theorem dX7_drop_15 : decode cX7_drop 15 = .ok (.iload_n 1, 1) := by decide +kernel
theorem dX7_drop_16 : decode cX7_drop 16 = .ok (.aaload, 1) := by decide +kernel
theorem dX7_drop_17 : decode cX7_drop 17 = .ok (.astore_n 2, 1) := by decide +kernel
theorem dX7_drop_18 : decode cX7_drop 18 = .ok (.aload_n 2, 1) := by decide +kernel
theorem dX7_drop_19 : decode cX7_drop 19 = .ok (.getfield 287, 3) := by decide +kernel
theorem dX7_drop_22 : decode cX7_drop 22 = .ok (.ifCond .ne 6, 3) := by decide +kernel
theorem dX7_drop_25 : decode cX7_drop 25 = .ok (.bipush (-11), 2) := by decide +kernel
theorem dX7_drop_27 : decode cX7_drop 27 = .ok (.ireturn, 1) := by decide +kernel
theorem dX7_drop_28 : decode cX7_drop 28 = .ok (.aload_n 2, 1) := by decide +kernel
theorem dX7_drop_29 : decode cX7_drop 29 = .ok (.iconst 0, 1) := by decide +kernel
theorem dX7_drop_30 : decode cX7_drop 30 = .ok (.putfield 287, 3) := by decide +kernel
theorem dX7_drop_33 : decode cX7_drop 33 = .ok (.aload_n 2, 1) := by decide +kernel
theorem dX7_drop_34 : decode cX7_drop 34 = .ok (.getfield 290, 3) := by decide +kernel
theorem dX7_drop_37 : decode cX7_drop 37 = .ok (.ireturn, 1) := by decide +kernel
set_option maxRecDepth 20000 in
theorem ggX7_item_X7_isSheet : GoodIn wsX7_item wsX7_isSheet := goodIn_r _ [5, 6, 7, 4, 8] (by decide +kernel) (by decide +kernel)
set_option maxRecDepth 20000 in
theorem gX7_item_X7_isSheet : GoodIn wsX7_item (va_wsS RX7 255 yX7_isSheet wsX7_isSheet) := goodIn_app (goodIn_of _ (by decide +kernel)) ggX7_item_X7_isSheet
set_option maxRecDepth 20000 in
theorem ggX7_item_X7_lookAt : GoodIn wsX7_item wsX7_lookAt := goodIn_r _ [12, 1, 13, 14, 15, 16, 17, 18, 19, 20, 27, 28, 29, 30, 31, 32, 33, 34, 35, 36, 37, 38, 39, 40, 41, 42] (by decide +kernel) (by decide +kernel)
set_option maxRecDepth 20000 in
theorem gX7_item_X7_lookAt : GoodIn wsX7_item (wsV RX7 258 RX7 yX7_lookAt wsX7_lookAt) := goodIn_app (goodIn_of _ (by decide +kernel)) ggX7_item_X7_lookAt
set_option maxRecDepth 20000 in
theorem ggX7_item_X5_write : GoodIn wsX7_item wsX5_write := goodIn_r _ [24, 25, 26, 39, 40, 41, 42] (by decide +kernel) (by decide +kernel)
set_option maxRecDepth 20000 in
theorem gX7_item_X5_write : GoodIn wsX7_item (wsV RX7 279 RX5 yX5_write wsX5_write) := goodIn_app (goodIn_of _ (by decide +kernel)) ggX7_item_X5_write
theorem dX7_item_0 : decode cX7_item 0 = .ok (.iload_n 1, 1) := by decide +kernel
theorem dX7_item_1 : decode cX7_item 1 = .ok (.iload_n 2, 1) := by decide +kernel
theorem dX7_item_2 : decode cX7_item 2 = .ok (.invokestatic 255, 3) := by decide +kernel
theorem dX7_item_5 : decode cX7_item 5 = .ok (.ifCond .ne 5, 3) := by decide +kernel
theorem dX7_item_8 : decode cX7_item 8 = .ok (.iconst (-1), 1) := by decide +kernel
theorem dX7_item_9 : decode cX7_item 9 = .ok (.ireturn, 1) := by decide +kernel
theorem dX7_item_10 : decode cX7_item 10 = .ok (.aload_n 0, 1) := by decide +kernel
theorem dX7_item_11 : decode cX7_item 11 = .ok (.iload_n 1, 1) := by decide +kernel
theorem dX7_item_12 : decode cX7_item 12 = .ok (.iload_n 2, 1) := by decide +kernel
theorem dX7_item_13 : decode cX7_item 13 = .ok (.iload_n 3, 1) := by decide +kernel
theorem dX7_item_14 : decode cX7_item 14 = .ok (.iconst 1, 1) := by decide +kernel
theorem dX7_item_15 : decode cX7_item 15 = .ok (.invokevirtual 258, 3) := by decide +kernel
theorem dX7_item_18 : decode cX7_item 18 = .ok (.istore 6, 2) := by decide +kernel
theorem dX7_item_20 : decode cX7_item 20 = .ok (.iload 6, 2) := by decide +kernel
theorem dX7_item_22 : decode cX7_item 22 = .ok (.ifCond .ge 6, 3) := by decide +kernel
theorem dX7_item_25 : decode cX7_item 25 = .ok (.iload 6, 2) := by decide +kernel
theorem dX7_item_27 : decode cX7_item 27 = .ok (.ireturn, 1) := by decide +kernel
theorem dX7_item_28 : decode cX7_item 28 = .ok (.aload_n 0, 1) := by decide +kernel
theorem dX7_item_29 : decode cX7_item 29 = .ok (.getfield 38, 3) := by decide +kernel
theorem dX7_item_32 : decode cX7_item 32 = .ok (.iload_n 1, 1) := by decide +kernel
theorem dX7_item_33 : decode cX7_item 33 = .ok (.aaload, 1) := by decide +kernel
theorem dX7_item_34 : decode cX7_item 34 = .ok (.iload_n 3, 1) := by decide +kernel
theorem dX7_item_35 : decode cX7_item 35 = .ok (.lload 4, 2) := by decide +kernel
theorem dX7_item_37 : decode cX7_item 37 = .ok (.invokevirtual 279, 3) := by decide +kernel
theorem dX7_item_40 : decode cX7_item 40 = .ok (.iconst 1, 1) := by decide +kernel
theorem dX7_item_41 : decode cX7_item 41 = .ok (.ireturn, 1) := by decide +kernel
set_option maxRecDepth 20000 in
theorem ggX7_copy_X7_within : GoodIn wsX7_copy wsX7_within := goodIn_r _ [12] (by decide +kernel) (by decide +kernel)
set_option maxRecDepth 20000 in
theorem gX7_copy_X7_within : GoodIn wsX7_copy (va_wsS RX7 71 yX7_within wsX7_within) := goodIn_app (goodIn_of _ (by decide +kernel)) ggX7_copy_X7_within
set_option maxRecDepth 20000 in
theorem ggX7_copy_X5_spans : GoodIn wsX7_copy wsX5_spans := goodIn_r _ [17, 18, 31, 32, 33, 34] (by decide +kernel) (by decide +kernel)
set_option maxRecDepth 20000 in
theorem gX7_copy_X5_spans : GoodIn wsX7_copy (wsV RX7 294 RX5 yX5_spans wsX5_spans) := goodIn_app (goodIn_of _ (by decide +kernel)) ggX7_copy_X5_spans
theorem dX7_copy_0 : decode cX7_copy 0 = .ok (.iload_n 1, 1) := by decide +kernel
theorem dX7_copy_1 : decode cX7_copy 1 = .ok (.iconst 0, 1) := by decide +kernel
theorem dX7_copy_2 : decode cX7_copy 2 = .ok (.iconst 3, 1) := by decide +kernel
theorem dX7_copy_3 : decode cX7_copy 3 = .ok (.invokestatic 71, 3) := by decide +kernel
theorem dX7_copy_6 : decode cX7_copy 6 = .ok (.ifCond .eq 12, 3) := by decide +kernel
theorem dX7_copy_9 : decode cX7_copy 9 = .ok (.iload_n 3, 1) := by decide +kernel
theorem dX7_copy_10 : decode cX7_copy 10 = .ok (.iconst 0, 1) := by decide +kernel
theorem dX7_copy_11 : decode cX7_copy 11 = .ok (.iconst 3, 1) := by decide +kernel
theorem dX7_copy_12 : decode cX7_copy 12 = .ok (.invokestatic 71, 3) := by decide +kernel
theorem dX7_copy_15 : decode cX7_copy 15 = .ok (.ifCond .ne 5, 3) := by decide +kernel
theorem dX7_copy_18 : decode cX7_copy 18 = .ok (.iconst (-1), 1) := by decide +kernel
theorem dX7_copy_19 : decode cX7_copy 19 = .ok (.ireturn, 1) := by decide +kernel
theorem dX7_copy_20 : decode cX7_copy 20 = .ok (.aload_n 0, 1) := by decide +kernel
theorem dX7_copy_21 : decode cX7_copy 21 = .ok (.getfield 38, 3) := by decide +kernel
theorem dX7_copy_24 : decode cX7_copy 24 = .ok (.iload_n 1, 1) := by decide +kernel
theorem dX7_copy_25 : decode cX7_copy 25 = .ok (.aaload, 1) := by decide +kernel
theorem dX7_copy_26 : decode cX7_copy 26 = .ok (.astore 6, 2) := by decide +kernel
theorem dX7_copy_28 : decode cX7_copy 28 = .ok (.aload_n 0, 1) := by decide +kernel
theorem dX7_copy_29 : decode cX7_copy 29 = .ok (.getfield 38, 3) := by decide +kernel
theorem dX7_copy_32 : decode cX7_copy 32 = .ok (.iload_n 3, 1) := by decide +kernel
theorem dX7_copy_33 : decode cX7_copy 33 = .ok (.aaload, 1) := by decide +kernel
theorem dX7_copy_34 : decode cX7_copy 34 = .ok (.astore 7, 2) := by decide +kernel
theorem dX7_copy_36 : decode cX7_copy 36 = .ok (.aload 6, 2) := by decide +kernel
theorem dX7_copy_38 : decode cX7_copy 38 = .ok (.getfield 287, 3) := by decide +kernel
theorem dX7_copy_41 : decode cX7_copy 41 = .ok (.ifCond .eq 11, 3) := by decide +kernel
theorem dX7_copy_44 : decode cX7_copy 44 = .ok (.aload 7, 2) := by decide +kernel
theorem dX7_copy_46 : decode cX7_copy 46 = .ok (.getfield 287, 3) := by decide +kernel
theorem dX7_copy_49 : decode cX7_copy 49 = .ok (.ifCond .ne 6, 3) := by decide +kernel
theorem dX7_copy_52 : decode cX7_copy 52 = .ok (.bipush (-11), 2) := by decide +kernel
theorem dX7_copy_54 : decode cX7_copy 54 = .ok (.ireturn, 1) := by decide +kernel
theorem dX7_copy_55 : decode cX7_copy 55 = .ok (.aload 6, 2) := by decide +kernel
theorem dX7_copy_57 : decode cX7_copy 57 = .ok (.getfield 291, 3) := by decide +kernel
theorem dX7_copy_60 : decode cX7_copy 60 = .ok (.aload 7, 2) := by decide +kernel
theorem dX7_copy_62 : decode cX7_copy 62 = .ok (.getfield 291, 3) := by decide +kernel
theorem dX7_copy_65 : decode cX7_copy 65 = .ok (.if_icmp .eq 6, 3) := by decide +kernel
theorem dX7_copy_68 : decode cX7_copy 68 = .ok (.bipush (-12), 2) := by decide +kernel
theorem dX7_copy_70 : decode cX7_copy 70 = .ok (.ireturn, 1) := by decide +kernel
theorem dX7_copy_71 : decode cX7_copy 71 = .ok (.aload 6, 2) := by decide +kernel
theorem dX7_copy_73 : decode cX7_copy 73 = .ok (.iload_n 2, 1) := by decide +kernel
theorem dX7_copy_74 : decode cX7_copy 74 = .ok (.iload 5, 2) := by decide +kernel
theorem dX7_copy_76 : decode cX7_copy 76 = .ok (.invokevirtual 294, 3) := by decide +kernel
theorem dX7_copy_79 : decode cX7_copy 79 = .ok (.ifCond .eq 15, 3) := by decide +kernel
theorem dX7_copy_82 : decode cX7_copy 82 = .ok (.aload 7, 2) := by decide +kernel
theorem dX7_copy_84 : decode cX7_copy 84 = .ok (.iload 4, 2) := by decide +kernel
theorem dX7_copy_86 : decode cX7_copy 86 = .ok (.iload 5, 2) := by decide +kernel
theorem dX7_copy_88 : decode cX7_copy 88 = .ok (.invokevirtual 294, 3) := by decide +kernel
theorem dX7_copy_91 : decode cX7_copy 91 = .ok (.ifCond .ne 6, 3) := by decide +kernel
theorem dX7_copy_94 : decode cX7_copy 94 = .ok (.bipush (-13), 2) := by decide +kernel
theorem dX7_copy_96 : decode cX7_copy 96 = .ok (.ireturn, 1) := by decide +kernel
theorem dX7_copy_97 : decode cX7_copy 97 = .ok (.aload 6, 2) := by decide +kernel
theorem dX7_copy_99 : decode cX7_copy 99 = .ok (.getfield 269, 3) := by decide +kernel
theorem dX7_copy_102 : decode cX7_copy 102 = .ok (.iload_n 2, 1) := by decide +kernel
theorem dX7_copy_103 : decode cX7_copy 103 = .ok (.aload 7, 2) := by decide +kernel
theorem dX7_copy_105 : decode cX7_copy 105 = .ok (.getfield 269, 3) := by decide +kernel
theorem dX7_copy_108 : decode cX7_copy 108 = .ok (.iload 4, 2) := by decide +kernel
theorem dX7_copy_110 : decode cX7_copy 110 = .ok (.iload 5, 2) := by decide +kernel
theorem dX7_copy_112 : decode cX7_copy 112 = .ok (.invokestatic 297, 3) := by decide +kernel
theorem dX7_copy_115 : decode cX7_copy 115 = .ok (.iload 5, 2) := by decide +kernel
theorem dX7_copy_117 : decode cX7_copy 117 = .ok (.ireturn, 1) := by decide +kernel
theorem dX7_within_0 : decode cX7_within 0 = .ok (.iload_n 0, 1) := by decide +kernel
theorem dX7_within_1 : decode cX7_within 1 = .ok (.iload_n 1, 1) := by decide +kernel
theorem dX7_within_2 : decode cX7_within 2 = .ok (.if_icmp .lt 12, 3) := by decide +kernel
theorem dX7_within_5 : decode cX7_within 5 = .ok (.iload_n 0, 1) := by decide +kernel
theorem dX7_within_6 : decode cX7_within 6 = .ok (.iload_n 2, 1) := by decide +kernel
theorem dX7_within_7 : decode cX7_within 7 = .ok (.if_icmp .gt 7, 3) := by decide +kernel
theorem dX7_within_10 : decode cX7_within 10 = .ok (.iconst 1, 1) := by decide +kernel
theorem dX7_within_11 : decode cX7_within 11 = .ok (.goto 4, 3) := by decide +kernel
theorem dX7_within_14 : decode cX7_within 14 = .ok (.iconst 0, 1) := by decide +kernel
theorem dX7_within_15 : decode cX7_within 15 = .ok (.ireturn, 1) := by decide +kernel
theorem dX7_hasMark_0 : decode cX7_hasMark 0 = .ok (.iload_n 1, 1) := by decide +kernel
theorem dX7_hasMark_1 : decode cX7_hasMark 1 = .ok (.ifCond .lt 18, 3) := by decide +kernel
theorem dX7_hasMark_4 : decode cX7_hasMark 4 = .ok (.iload_n 1, 1) := by decide +kernel
theorem dX7_hasMark_5 : decode cX7_hasMark 5 = .ok (.aload_n 0, 1) := by decide +kernel
theorem dX7_hasMark_6 : decode cX7_hasMark 6 = .ok (.getfield 10, 3) := by decide +kernel
theorem dX7_hasMark_9 : decode cX7_hasMark 9 = .ok (.getfield 75, 3) := by decide +kernel
theorem dX7_hasMark_12 : decode cX7_hasMark 12 = .ok (.if_icmp .ge 7, 3) := by decide +kernel
theorem dX7_hasMark_15 : decode cX7_hasMark 15 = .ok (.iconst 1, 1) := by decide +kernel
theorem dX7_hasMark_16 : decode cX7_hasMark 16 = .ok (.goto 4, 3) := by decide +kernel
theorem dX7_hasMark_19 : decode cX7_hasMark 19 = .ok (.iconst 0, 1) := by decide +kernel
theorem dX7_hasMark_20 : decode cX7_hasMark 20 = .ok (.ireturn, 1) := by decide +kernel
theorem dX7_hasMonk_0 : decode cX7_hasMonk 0 = .ok (.iload_n 1, 1) := by decide +kernel
theorem dX7_hasMonk_1 : decode cX7_hasMonk 1 = .ok (.ifCond .lt 18, 3) := by decide +kernel
theorem dX7_hasMonk_4 : decode cX7_hasMonk 4 = .ok (.iload_n 1, 1) := by decide +kernel
theorem dX7_hasMonk_5 : decode cX7_hasMonk 5 = .ok (.aload_n 0, 1) := by decide +kernel
theorem dX7_hasMonk_6 : decode cX7_hasMonk 6 = .ok (.getfield 10, 3) := by decide +kernel
theorem dX7_hasMonk_9 : decode cX7_hasMonk 9 = .ok (.getfield 86, 3) := by decide +kernel
theorem dX7_hasMonk_12 : decode cX7_hasMonk 12 = .ok (.if_icmp .ge 7, 3) := by decide +kernel
theorem dX7_hasMonk_15 : decode cX7_hasMonk 15 = .ok (.iconst 1, 1) := by decide +kernel
theorem dX7_hasMonk_16 : decode cX7_hasMonk 16 = .ok (.goto 4, 3) := by decide +kernel
theorem dX7_hasMonk_19 : decode cX7_hasMonk 19 = .ok (.iconst 0, 1) := by decide +kernel
theorem dX7_hasMonk_20 : decode cX7_hasMonk 20 = .ok (.ireturn, 1) := by decide +kernel
set_option maxRecDepth 20000 in
theorem ggX7_isSheet_X7_within : GoodIn wsX7_isSheet wsX7_within := goodIn_r _ [4] (by decide +kernel) (by decide +kernel)
set_option maxRecDepth 20000 in
theorem gX7_isSheet_X7_within : GoodIn wsX7_isSheet (va_wsS RX7 71 yX7_within wsX7_within) := goodIn_app (goodIn_of _ (by decide +kernel)) ggX7_isSheet_X7_within
theorem dX7_isSheet_0 : decode cX7_isSheet 0 = .ok (.iload_n 0, 1) := by decide +kernel
theorem dX7_isSheet_1 : decode cX7_isSheet 1 = .ok (.iconst 0, 1) := by decide +kernel
theorem dX7_isSheet_2 : decode cX7_isSheet 2 = .ok (.iconst 3, 1) := by decide +kernel
theorem dX7_isSheet_3 : decode cX7_isSheet 3 = .ok (.invokestatic 71, 3) := by decide +kernel
theorem dX7_isSheet_6 : decode cX7_isSheet 6 = .ok (.ifCond .eq 16, 3) := by decide +kernel
theorem dX7_isSheet_9 : decode cX7_isSheet 9 = .ok (.iload_n 1, 1) := by decide +kernel
theorem dX7_isSheet_10 : decode cX7_isSheet 10 = .ok (.iconst 0, 1) := by decide +kernel
theorem dX7_isSheet_11 : decode cX7_isSheet 11 = .ok (.iconst 3, 1) := by decide +kernel
theorem dX7_isSheet_12 : decode cX7_isSheet 12 = .ok (.invokestatic 71, 3) := by decide +kernel
theorem dX7_isSheet_15 : decode cX7_isSheet 15 = .ok (.ifCond .eq 7, 3) := by decide +kernel
theorem dX7_isSheet_18 : decode cX7_isSheet 18 = .ok (.iconst 1, 1) := by decide +kernel
theorem dX7_isSheet_19 : decode cX7_isSheet 19 = .ok (.goto 4, 3) := by decide +kernel
theorem dX7_isSheet_22 : decode cX7_isSheet 22 = .ok (.iconst 0, 1) := by decide +kernel
theorem dX7_isSheet_23 : decode cX7_isSheet 23 = .ok (.ireturn, 1) := by decide +kernel
set_option maxRecDepth 20000 in
theorem ggX7_lookAt_X5_spans : GoodIn wsX7_lookAt wsX5_spans := goodIn_r _ [8, 9, 22, 23, 24, 25] (by decide +kernel) (by decide +kernel)
set_option maxRecDepth 20000 in
theorem gX7_lookAt_X5_spans : GoodIn wsX7_lookAt (wsV RX7 294 RX5 yX5_spans wsX5_spans) := goodIn_app (goodIn_of _ (by decide +kernel)) ggX7_lookAt_X5_spans
theorem dX7_lookAt_0 : decode cX7_lookAt 0 = .ok (.aload_n 0, 1) := by decide +kernel
theorem dX7_lookAt_1 : decode cX7_lookAt 1 = .ok (.getfield 38, 3) := by decide +kernel
theorem dX7_lookAt_4 : decode cX7_lookAt 4 = .ok (.iload_n 1, 1) := by decide +kernel
theorem dX7_lookAt_5 : decode cX7_lookAt 5 = .ok (.aaload, 1) := by decide +kernel
theorem dX7_lookAt_6 : decode cX7_lookAt 6 = .ok (.astore 5, 2) := by decide +kernel
theorem dX7_lookAt_8 : decode cX7_lookAt 8 = .ok (.aload 5, 2) := by decide +kernel
theorem dX7_lookAt_10 : decode cX7_lookAt 10 = .ok (.getfield 287, 3) := by decide +kernel
theorem dX7_lookAt_13 : decode cX7_lookAt 13 = .ok (.ifCond .ne 6, 3) := by decide +kernel
theorem dX7_lookAt_16 : decode cX7_lookAt 16 = .ok (.bipush (-11), 2) := by decide +kernel
theorem dX7_lookAt_18 : decode cX7_lookAt 18 = .ok (.ireturn, 1) := by decide +kernel
theorem dX7_lookAt_19 : decode cX7_lookAt 19 = .ok (.aload 5, 2) := by decide +kernel
theorem dX7_lookAt_21 : decode cX7_lookAt 21 = .ok (.getfield 291, 3) := by decide +kernel
theorem dX7_lookAt_24 : decode cX7_lookAt 24 = .ok (.iload_n 2, 1) := by decide +kernel
theorem dX7_lookAt_25 : decode cX7_lookAt 25 = .ok (.if_icmp .eq 6, 3) := by decide +kernel
theorem dX7_lookAt_28 : decode cX7_lookAt 28 = .ok (.bipush (-12), 2) := by decide +kernel
theorem dX7_lookAt_30 : decode cX7_lookAt 30 = .ok (.ireturn, 1) := by decide +kernel
theorem dX7_lookAt_31 : decode cX7_lookAt 31 = .ok (.aload 5, 2) := by decide +kernel
theorem dX7_lookAt_33 : decode cX7_lookAt 33 = .ok (.iload_n 3, 1) := by decide +kernel
theorem dX7_lookAt_34 : decode cX7_lookAt 34 = .ok (.iload 4, 2) := by decide +kernel
theorem dX7_lookAt_36 : decode cX7_lookAt 36 = .ok (.invokevirtual 294, 3) := by decide +kernel
theorem dX7_lookAt_39 : decode cX7_lookAt 39 = .ok (.ifCond .eq 7, 3) := by decide +kernel
theorem dX7_lookAt_42 : decode cX7_lookAt 42 = .ok (.iconst 0, 1) := by decide +kernel
theorem dX7_lookAt_43 : decode cX7_lookAt 43 = .ok (.goto 5, 3) := by decide +kernel
theorem dX7_lookAt_46 : decode cX7_lookAt 46 = .ok (.bipush (-13), 2) := by decide +kernel
theorem dX7_lookAt_48 : decode cX7_lookAt 48 = .ok (.ireturn, 1) := by decide +kernel
set_option maxRecDepth 20000 in
theorem ggX7_liveThrough_X7_within : GoodIn wsX7_liveThrough wsX7_within := goodIn_r _ [7] (by decide +kernel) (by decide +kernel)
set_option maxRecDepth 20000 in
theorem gX7_liveThrough_X7_within : GoodIn wsX7_liveThrough (va_wsS RX7 71 yX7_within wsX7_within) := goodIn_app (goodIn_of _ (by decide +kernel)) ggX7_liveThrough_X7_within
set_option maxRecDepth 20000 in
theorem ggX7_liveThrough_X0_keep : GoodIn wsX7_liveThrough wsX0_keep := goodIn_r _ [12, 13, 14, 15, 16, 17, 18, 19, 20, 21, 22, 23, 24, 25, 26, 27, 28, 29, 30, 31, 32, 33, 34, 35, 36, 112, 113, 114, 100, 101, 102, 103, 104, 105, 106, 107, 108, 109, 110, 111] (by decide +kernel) (by decide +kernel)
set_option maxRecDepth 20000 in
theorem gX7_liveThrough_X0_keep : GoodIn wsX7_liveThrough (wsV RX7 171 RX0 yX0_keep wsX0_keep) := goodIn_app (goodIn_of _ (by decide +kernel)) ggX7_liveThrough_X0_keep
set_option maxRecDepth 20000 in
theorem ggX7_liveThrough_X2_drawAndSend : GoodIn wsX7_liveThrough wsX2_drawAndSend := goodIn_r _ [40, 25, 41, 42, 22, 21, 36, 43, 100, 101, 102, 103, 104, 105, 106, 107, 108, 109, 110, 111] (by decide +kernel) (by decide +kernel)
set_option maxRecDepth 20000 in
theorem gX7_liveThrough_X2_drawAndSend : GoodIn wsX7_liveThrough (wsV RX7 303 RX2 yX2_drawAndSend wsX2_drawAndSend) := goodIn_app (goodIn_of _ (by decide +kernel)) ggX7_liveThrough_X2_drawAndSend
set_option maxRecDepth 20000 in
theorem ggX7_liveThrough_X2_passDay : GoodIn wsX7_liveThrough wsX2_passDay := goodIn_r _ [47, 22, 36, 23, 48, 49, 50, 19, 51, 35, 52, 53, 54, 55, 56, 57, 58, 59, 26, 32, 60, 61, 62, 63, 33, 64, 65, 66, 67, 34, 68, 69, 70, 71, 31, 72, 73, 74, 24, 75, 76, 77, 78, 79, 80, 81, 82, 83, 100, 101, 102, 103, 104, 105, 106, 107, 108, 109, 110, 111] (by decide +kernel) (by decide +kernel)
set_option maxRecDepth 20000 in
theorem gX7_liveThrough_X2_passDay : GoodIn wsX7_liveThrough (wsV RX7 194 RX2 yX2_passDay wsX2_passDay) := goodIn_app (goodIn_of _ (by decide +kernel)) ggX7_liveThrough_X2_passDay
set_option maxRecDepth 20000 in
theorem ggX7_liveThrough_X2_goneSet : GoodIn wsX7_liveThrough wsX2_goneSet := goodIn_r _ [87, 21, 56, 57, 58, 19, 59, 26, 32, 100, 101, 102, 103, 104, 105, 106, 107, 108, 109, 110, 111] (by decide +kernel) (by decide +kernel)
set_option maxRecDepth 20000 in
theorem gX7_liveThrough_X2_goneSet : GoodIn wsX7_liveThrough (wsV RX7 153 RX2 yX2_goneSet wsX2_goneSet) := goodIn_app (goodIn_of _ (by decide +kernel)) ggX7_liveThrough_X2_goneSet
theorem dX7_liveThrough_0 : decode cX7_liveThrough 0 = .ok (.iload_n 1, 1) := by decide +kernel
theorem dX7_liveThrough_1 : decode cX7_liveThrough 1 = .ok (.iconst 1, 1) := by decide +kernel
theorem dX7_liveThrough_2 : decode cX7_liveThrough 2 = .ok (.bipush 40, 2) := by decide +kernel
theorem dX7_liveThrough_4 : decode cX7_liveThrough 4 = .ok (.invokestatic 71, 3) := by decide +kernel
theorem dX7_liveThrough_7 : decode cX7_liveThrough 7 = .ok (.ifCond .ne 5, 3) := by decide +kernel
theorem dX7_liveThrough_10 : decode cX7_liveThrough 10 = .ok (.iconst (-1), 1) := by decide +kernel
theorem dX7_liveThrough_11 : decode cX7_liveThrough 11 = .ok (.ireturn, 1) := by decide +kernel
theorem dX7_liveThrough_12 : decode cX7_liveThrough 12 = .ok (.aload_n 0, 1) := by decide +kernel
theorem dX7_liveThrough_13 : decode cX7_liveThrough 13 = .ok (.getfield 10, 3) := by decide +kernel
theorem dX7_liveThrough_16 : decode cX7_liveThrough 16 = .ok (.getfield 147, 3) := by decide +kernel
theorem dX7_liveThrough_19 : decode cX7_liveThrough 19 = .ok (.iload_n 1, 1) := by decide +kernel
theorem dX7_liveThrough_20 : decode cX7_liveThrough 20 = .ok (.iadd, 1) := by decide +kernel
theorem dX7_liveThrough_21 : decode cX7_liveThrough 21 = .ok (.sipush 9999, 3) := by decide +kernel
theorem dX7_liveThrough_24 : decode cX7_liveThrough 24 = .ok (.if_icmp .le 6, 3) := by decide +kernel
theorem dX7_liveThrough_27 : decode cX7_liveThrough 27 = .ok (.bipush (-3), 2) := by decide +kernel
theorem dX7_liveThrough_29 : decode cX7_liveThrough 29 = .ok (.ireturn, 1) := by decide +kernel
theorem dX7_liveThrough_30 : decode cX7_liveThrough 30 = .ok (.iconst 0, 1) := by decide +kernel
theorem dX7_liveThrough_31 : decode cX7_liveThrough 31 = .ok (.istore_n 3, 1) := by decide +kernel
theorem dX7_liveThrough_32 : decode cX7_liveThrough 32 = .ok (.iload_n 3, 1) := by decide +kernel
theorem dX7_liveThrough_33 : decode cX7_liveThrough 33 = .ok (.iload_n 1, 1) := by decide +kernel
theorem dX7_liveThrough_34 : decode cX7_liveThrough 34 = .ok (.if_icmp .ge 39, 3) := by decide +kernel
theorem dX7_liveThrough_37 : decode cX7_liveThrough 37 = .ok (.aload_n 0, 1) := by decide +kernel
theorem dX7_liveThrough_38 : decode cX7_liveThrough 38 = .ok (.getfield 19, 3) := by decide +kernel
theorem dX7_liveThrough_41 : decode cX7_liveThrough 41 = .ok (.aload_n 0, 1) := by decide +kernel
theorem dX7_liveThrough_42 : decode cX7_liveThrough 42 = .ok (.getfield 10, 3) := by decide +kernel
theorem dX7_liveThrough_45 : decode cX7_liveThrough 45 = .ok (.invokevirtual 171, 3) := by decide +kernel
theorem dX7_liveThrough_48 : decode cX7_liveThrough 48 = .ok (.iload_n 2, 1) := by decide +kernel
theorem dX7_liveThrough_49 : decode cX7_liveThrough 49 = .ok (.ifCond .eq 10, 3) := by decide +kernel
theorem dX7_liveThrough_52 : decode cX7_liveThrough 52 = .ok (.aload_n 0, 1) := by decide +kernel
theorem dX7_liveThrough_53 : decode cX7_liveThrough 53 = .ok (.getfield 10, 3) := by decide +kernel
theorem dX7_liveThrough_56 : decode cX7_liveThrough 56 = .ok (.invokevirtual 303, 3) := by decide +kernel
theorem dX7_liveThrough_59 : decode cX7_liveThrough 59 = .ok (.aload_n 0, 1) := by decide +kernel
theorem dX7_liveThrough_60 : decode cX7_liveThrough 60 = .ok (.getfield 10, 3) := by decide +kernel
theorem dX7_liveThrough_63 : decode cX7_liveThrough 63 = .ok (.iconst 0, 1) := by decide +kernel
theorem dX7_liveThrough_64 : decode cX7_liveThrough 64 = .ok (.invokevirtual 194, 3) := by decide +kernel
theorem dX7_liveThrough_67 : decode cX7_liveThrough 67 = .ok (.iinc 3 1, 3) := by decide +kernel
theorem dX7_liveThrough_70 : decode cX7_liveThrough 70 = .ok (.goto (-38), 3) := by decide +kernel
theorem dX7_liveThrough_73 : decode cX7_liveThrough 73 = .ok (.aload_n 0, 1) := by decide +kernel
theorem dX7_liveThrough_74 : decode cX7_liveThrough 74 = .ok (.getfield 10, 3) := by decide +kernel
theorem dX7_liveThrough_77 : decode cX7_liveThrough 77 = .ok (.invokevirtual 153, 3) := by decide +kernel
theorem dX7_liveThrough_80 : decode cX7_liveThrough 80 = .ok (.ireturn, 1) := by decide +kernel
set_option maxRecDepth 20000 in
theorem ggX7_foretell_X2_become : GoodIn wsX7_foretell wsX2_become := goodIn_r _ [7, 8, 9, 10, 11, 12, 13, 14, 15, 16, 17, 18, 19, 20, 21, 22, 23, 76, 77, 78, 79, 80, 81, 82, 83, 84, 85, 86, 87] (by decide +kernel) (by decide +kernel)
set_option maxRecDepth 20000 in
theorem gX7_foretell_X2_become : GoodIn wsX7_foretell (wsV RX7 143 RX2 yX2_become wsX2_become) := goodIn_app (goodIn_of _ (by decide +kernel)) ggX7_foretell_X2_become
set_option maxRecDepth 20000 in
theorem ggX7_foretell_X2_passDay : GoodIn wsX7_foretell wsX2_passDay := goodIn_r _ [27, 9, 23, 10, 28, 29, 30, 6, 31, 22, 32, 33, 34, 35, 36, 37, 38, 39, 13, 19, 40, 41, 42, 43, 20, 44, 45, 46, 47, 21, 48, 49, 50, 51, 18, 52, 53, 54, 11, 55, 56, 57, 58, 59, 60, 61, 62, 63, 76, 77, 78, 79, 80, 81, 82, 83, 84, 85, 86, 87] (by decide +kernel) (by decide +kernel)
set_option maxRecDepth 20000 in
theorem gX7_foretell_X2_passDay : GoodIn wsX7_foretell (wsV RX7 194 RX2 yX2_passDay wsX2_passDay) := goodIn_app (goodIn_of _ (by decide +kernel)) ggX7_foretell_X2_passDay
theorem dX7_foretell_0 : decode cX7_foretell 0 = .ok (.aload_n 0, 1) := by decide +kernel
theorem dX7_foretell_1 : decode cX7_foretell 1 = .ok (.getfield 42, 3) := by decide +kernel
theorem dX7_foretell_4 : decode cX7_foretell 4 = .ok (.aload_n 0, 1) := by decide +kernel
theorem dX7_foretell_5 : decode cX7_foretell 5 = .ok (.getfield 10, 3) := by decide +kernel
theorem dX7_foretell_8 : decode cX7_foretell 8 = .ok (.invokevirtual 143, 3) := by decide +kernel
theorem dX7_foretell_11 : decode cX7_foretell 11 = .ok (.iconst 0, 1) := by decide +kernel
theorem dX7_foretell_12 : decode cX7_foretell 12 = .ok (.istore_n 2, 1) := by decide +kernel
theorem dX7_foretell_13 : decode cX7_foretell 13 = .ok (.iload_n 2, 1) := by decide +kernel
theorem dX7_foretell_14 : decode cX7_foretell 14 = .ok (.iload_n 1, 1) := by decide +kernel
theorem dX7_foretell_15 : decode cX7_foretell 15 = .ok (.if_icmp .ge 17, 3) := by decide +kernel
theorem dX7_foretell_18 : decode cX7_foretell 18 = .ok (.aload_n 0, 1) := by decide +kernel
theorem dX7_foretell_19 : decode cX7_foretell 19 = .ok (.getfield 42, 3) := by decide +kernel
theorem dX7_foretell_22 : decode cX7_foretell 22 = .ok (.iconst 0, 1) := by decide +kernel
theorem dX7_foretell_23 : decode cX7_foretell 23 = .ok (.invokevirtual 194, 3) := by decide +kernel
theorem dX7_foretell_26 : decode cX7_foretell 26 = .ok (.iinc 2 1, 3) := by decide +kernel
theorem dX7_foretell_29 : decode cX7_foretell 29 = .ok (.goto (-16), 3) := by decide +kernel
theorem dX7_foretell_32 : decode cX7_foretell 32 = .ok (.return_, 1) := by decide +kernel
set_option maxRecDepth 20000 in
theorem ggX7_chanceOf_X2_sentSet : GoodIn wsX7_chanceOf wsX2_sentSet := goodIn_r _ [7, 8, 9, 95, 96, 97, 98, 99, 100, 101, 102, 103, 104, 105, 106] (by decide +kernel) (by decide +kernel)
set_option maxRecDepth 20000 in
theorem gX7_chanceOf_X2_sentSet : GoodIn wsX7_chanceOf (wsV RX7 232 RX2 yX2_sentSet wsX2_sentSet) := goodIn_app (goodIn_of _ (by decide +kernel)) ggX7_chanceOf_X2_sentSet
set_option maxRecDepth 20000 in
theorem ggX7_chanceOf_X2_become : GoodIn wsX7_chanceOf wsX2_become := goodIn_r _ [13, 14, 8, 15, 16, 17, 18, 19, 20, 21, 22, 23, 24, 25, 26, 27, 9, 95, 96, 97, 98, 99, 100, 101, 102, 103, 104, 105, 106] (by decide +kernel) (by decide +kernel)
set_option maxRecDepth 20000 in
theorem gX7_chanceOf_X2_become : GoodIn wsX7_chanceOf (wsV RX7 143 RX2 yX2_become wsX2_become) := goodIn_app (goodIn_of _ (by decide +kernel)) ggX7_chanceOf_X2_become
set_option maxRecDepth 20000 in
theorem ggX7_chanceOf_X2_passDay : GoodIn wsX7_chanceOf wsX2_passDay := goodIn_r _ [31, 8, 9, 15, 32, 33, 34, 6, 35, 27, 36, 37, 38, 39, 40, 41, 42, 43, 18, 24, 44, 45, 46, 47, 25, 48, 49, 50, 51, 26, 52, 53, 54, 55, 23, 56, 57, 58, 16, 59, 60, 61, 62, 63, 64, 65, 66, 67, 95, 96, 97, 98, 99, 100, 101, 102, 103, 104, 105, 106] (by decide +kernel) (by decide +kernel)
set_option maxRecDepth 20000 in
theorem gX7_chanceOf_X2_passDay : GoodIn wsX7_chanceOf (wsV RX7 194 RX2 yX2_passDay wsX2_passDay) := goodIn_app (goodIn_of _ (by decide +kernel)) ggX7_chanceOf_X2_passDay
set_option maxRecDepth 20000 in
theorem ggX7_chanceOf_X2_goneSet : GoodIn wsX7_chanceOf wsX2_goneSet := goodIn_r _ [71, 14, 40, 41, 42, 6, 43, 18, 24, 95, 96, 97, 98, 99, 100, 101, 102, 103, 104, 105, 106] (by decide +kernel) (by decide +kernel)
set_option maxRecDepth 20000 in
theorem gX7_chanceOf_X2_goneSet : GoodIn wsX7_chanceOf (wsV RX7 153 RX2 yX2_goneSet wsX2_goneSet) := goodIn_app (goodIn_of _ (by decide +kernel)) ggX7_chanceOf_X2_goneSet
set_option maxRecDepth 20000 in
theorem ggX7_chanceOf_J6_bitCount_0f7a4 : GoodIn wsX7_chanceOf wsJ6_bitCount_0f7a4 := goodIn_r _ [75, 76, 77, 78] (by decide +kernel) (by decide +kernel)
set_option maxRecDepth 20000 in
theorem gX7_chanceOf_J6_bitCount_0f7a4 : GoodIn wsX7_chanceOf (va_wsS RX7 235 yJ6_bitCount_0f7a4 wsJ6_bitCount_0f7a4) := goodIn_app (goodIn_of _ (by decide +kernel)) ggX7_chanceOf_J6_bitCount_0f7a4
set_option maxRecDepth 20000 in
theorem ggX7_chanceOf_X7_power : GoodIn wsX7_chanceOf wsX7_power := goodIn_r _ [82] (by decide +kernel) (by decide +kernel)
set_option maxRecDepth 20000 in
theorem gX7_chanceOf_X7_power : GoodIn wsX7_chanceOf (va_wsS RX7 240 yX7_power wsX7_power) := goodIn_app (goodIn_of _ (by decide +kernel)) ggX7_chanceOf_X7_power
theorem dX7_chanceOf_0 : decode cX7_chanceOf 0 = .ok (.aload_n 0, 1) := by decide +kernel
theorem dX7_chanceOf_1 : decode cX7_chanceOf 1 = .ok (.getfield 10, 3) := by decide +kernel
theorem dX7_chanceOf_4 : decode cX7_chanceOf 4 = .ok (.invokevirtual 232, 3) := by decide +kernel
theorem dX7_chanceOf_7 : decode cX7_chanceOf 7 = .ok (.istore 4, 2) := by decide +kernel
theorem dX7_chanceOf_9 : decode cX7_chanceOf 9 = .ok (.iload_n 1, 1) := by decide +kernel
theorem dX7_chanceOf_10 : decode cX7_chanceOf 10 = .ok (.iload 4, 2) := by decide +kernel
theorem dX7_chanceOf_12 : decode cX7_chanceOf 12 = .ok (.iconst (-1), 1) := by decide +kernel
theorem dX7_chanceOf_13 : decode cX7_chanceOf 13 = .ok (.ixor, 1) := by decide +kernel
theorem dX7_chanceOf_14 : decode cX7_chanceOf 14 = .ok (.iand, 1) := by decide +kernel
theorem dX7_chanceOf_15 : decode cX7_chanceOf 15 = .ok (.ifCond .eq 5, 3) := by decide +kernel
theorem dX7_chanceOf_18 : decode cX7_chanceOf 18 = .ok (.iconst 0, 1) := by decide +kernel
theorem dX7_chanceOf_19 : decode cX7_chanceOf 19 = .ok (.ireturn, 1) := by decide +kernel
theorem dX7_chanceOf_20 : decode cX7_chanceOf 20 = .ok (.aload_n 0, 1) := by decide +kernel
theorem dX7_chanceOf_21 : decode cX7_chanceOf 21 = .ok (.getfield 42, 3) := by decide +kernel
theorem dX7_chanceOf_24 : decode cX7_chanceOf 24 = .ok (.aload_n 0, 1) := by decide +kernel
theorem dX7_chanceOf_25 : decode cX7_chanceOf 25 = .ok (.getfield 10, 3) := by decide +kernel
theorem dX7_chanceOf_28 : decode cX7_chanceOf 28 = .ok (.invokevirtual 143, 3) := by decide +kernel
theorem dX7_chanceOf_31 : decode cX7_chanceOf 31 = .ok (.aload_n 0, 1) := by decide +kernel
theorem dX7_chanceOf_32 : decode cX7_chanceOf 32 = .ok (.getfield 42, 3) := by decide +kernel
theorem dX7_chanceOf_35 : decode cX7_chanceOf 35 = .ok (.iload_n 1, 1) := by decide +kernel
theorem dX7_chanceOf_36 : decode cX7_chanceOf 36 = .ok (.invokevirtual 194, 3) := by decide +kernel
theorem dX7_chanceOf_39 : decode cX7_chanceOf 39 = .ok (.aload_n 0, 1) := by decide +kernel
theorem dX7_chanceOf_40 : decode cX7_chanceOf 40 = .ok (.getfield 42, 3) := by decide +kernel
theorem dX7_chanceOf_43 : decode cX7_chanceOf 43 = .ok (.invokevirtual 153, 3) := by decide +kernel
theorem dX7_chanceOf_46 : decode cX7_chanceOf 46 = .ok (.invokestatic 235, 3) := by decide +kernel
theorem dX7_chanceOf_49 : decode cX7_chanceOf 49 = .ok (.iload_n 2, 1) := by decide +kernel
theorem dX7_chanceOf_50 : decode cX7_chanceOf 50 = .ok (.if_icmp .ge 5, 3) := by decide +kernel
theorem dX7_chanceOf_53 : decode cX7_chanceOf 53 = .ok (.iconst 0, 1) := by decide +kernel
theorem dX7_chanceOf_54 : decode cX7_chanceOf 54 = .ok (.ireturn, 1) := by decide +kernel
theorem dX7_chanceOf_55 : decode cX7_chanceOf 55 = .ok (.iload_n 3, 1) := by decide +kernel
theorem dX7_chanceOf_56 : decode cX7_chanceOf 56 = .ok (.iload_n 1, 1) := by decide +kernel
theorem dX7_chanceOf_57 : decode cX7_chanceOf 57 = .ok (.invokestatic 235, 3) := by decide +kernel
theorem dX7_chanceOf_60 : decode cX7_chanceOf 60 = .ok (.invokestatic 240, 3) := by decide +kernel
theorem dX7_chanceOf_63 : decode cX7_chanceOf 63 = .ok (.bipush 10, 2) := by decide +kernel
theorem dX7_chanceOf_65 : decode cX7_chanceOf 65 = .ok (.iload_n 3, 1) := by decide +kernel
theorem dX7_chanceOf_66 : decode cX7_chanceOf 66 = .ok (.isub, 1) := by decide +kernel
theorem dX7_chanceOf_67 : decode cX7_chanceOf 67 = .ok (.iload 4, 2) := by decide +kernel
theorem dX7_chanceOf_69 : decode cX7_chanceOf 69 = .ok (.iload_n 1, 1) := by decide +kernel
theorem dX7_chanceOf_70 : decode cX7_chanceOf 70 = .ok (.iconst (-1), 1) := by decide +kernel
theorem dX7_chanceOf_71 : decode cX7_chanceOf 71 = .ok (.ixor, 1) := by decide +kernel
theorem dX7_chanceOf_72 : decode cX7_chanceOf 72 = .ok (.iand, 1) := by decide +kernel
theorem dX7_chanceOf_73 : decode cX7_chanceOf 73 = .ok (.invokestatic 235, 3) := by decide +kernel
theorem dX7_chanceOf_76 : decode cX7_chanceOf 76 = .ok (.invokestatic 240, 3) := by decide +kernel
theorem dX7_chanceOf_79 : decode cX7_chanceOf 79 = .ok (.imul, 1) := by decide +kernel
theorem dX7_chanceOf_80 : decode cX7_chanceOf 80 = .ok (.ireturn, 1) := by decide +kernel
theorem dX7_power_0 : decode cX7_power 0 = .ok (.iconst 1, 1) := by decide +kernel
theorem dX7_power_1 : decode cX7_power 1 = .ok (.istore_n 2, 1) := by decide +kernel
theorem dX7_power_2 : decode cX7_power 2 = .ok (.iconst 0, 1) := by decide +kernel
theorem dX7_power_3 : decode cX7_power 3 = .ok (.istore_n 3, 1) := by decide +kernel
theorem dX7_power_4 : decode cX7_power 4 = .ok (.iload_n 3, 1) := by decide +kernel
theorem dX7_power_5 : decode cX7_power 5 = .ok (.iload_n 1, 1) := by decide +kernel
theorem dX7_power_6 : decode cX7_power 6 = .ok (.if_icmp .ge 13, 3) := by decide +kernel
theorem dX7_power_9 : decode cX7_power 9 = .ok (.iload_n 2, 1) := by decide +kernel
theorem dX7_power_10 : decode cX7_power 10 = .ok (.iload_n 0, 1) := by decide +kernel
theorem dX7_power_11 : decode cX7_power 11 = .ok (.imul, 1) := by decide +kernel
theorem dX7_power_12 : decode cX7_power 12 = .ok (.istore_n 2, 1) := by decide +kernel
theorem dX7_power_13 : decode cX7_power 13 = .ok (.iinc 3 1, 3) := by decide +kernel
theorem dX7_power_16 : decode cX7_power 16 = .ok (.goto (-12), 3) := by decide +kernel
theorem dX7_power_19 : decode cX7_power 19 = .ok (.iload_n 2, 1) := by decide +kernel
theorem dX7_power_20 : decode cX7_power 20 = .ok (.ireturn, 1) := by decide +kernel
theorem dX7_commonDivisor_0 : decode cX7_commonDivisor 0 = .ok (.iload_n 0, 1) := by decide +kernel
theorem dX7_commonDivisor_1 : decode cX7_commonDivisor 1 = .ok (.istore_n 2, 1) := by decide +kernel
theorem dX7_commonDivisor_2 : decode cX7_commonDivisor 2 = .ok (.iload_n 1, 1) := by decide +kernel
theorem dX7_commonDivisor_3 : decode cX7_commonDivisor 3 = .ok (.istore_n 3, 1) := by decide +kernel
theorem dX7_commonDivisor_4 : decode cX7_commonDivisor 4 = .ok (.iconst 0, 1) := by decide +kernel
theorem dX7_commonDivisor_5 : decode cX7_commonDivisor 5 = .ok (.istore 4, 2) := by decide +kernel
theorem dX7_commonDivisor_7 : decode cX7_commonDivisor 7 = .ok (.iload 4, 2) := by decide +kernel
theorem dX7_commonDivisor_9 : decode cX7_commonDivisor 9 = .ok (.bipush 64, 2) := by decide +kernel
theorem dX7_commonDivisor_11 : decode cX7_commonDivisor 11 = .ok (.if_icmp .ge 23, 3) := by decide +kernel
theorem dX7_commonDivisor_14 : decode cX7_commonDivisor 14 = .ok (.iload_n 3, 1) := by decide +kernel
theorem dX7_commonDivisor_15 : decode cX7_commonDivisor 15 = .ok (.ifCond .eq 19, 3) := by decide +kernel
theorem dX7_commonDivisor_18 : decode cX7_commonDivisor 18 = .ok (.iload_n 2, 1) := by decide +kernel
theorem dX7_commonDivisor_19 : decode cX7_commonDivisor 19 = .ok (.iload_n 3, 1) := by decide +kernel
theorem dX7_commonDivisor_20 : decode cX7_commonDivisor 20 = .ok (.irem, 1) := by decide +kernel
theorem dX7_commonDivisor_21 : decode cX7_commonDivisor 21 = .ok (.istore 5, 2) := by decide +kernel
theorem dX7_commonDivisor_23 : decode cX7_commonDivisor 23 = .ok (.iload_n 3, 1) := by decide +kernel
theorem dX7_commonDivisor_24 : decode cX7_commonDivisor 24 = .ok (.istore_n 2, 1) := by decide +kernel
theorem dX7_commonDivisor_25 : decode cX7_commonDivisor 25 = .ok (.iload 5, 2) := by decide +kernel
theorem dX7_commonDivisor_27 : decode cX7_commonDivisor 27 = .ok (.istore_n 3, 1) := by decide +kernel
theorem dX7_commonDivisor_28 : decode cX7_commonDivisor 28 = .ok (.iinc 4 1, 3) := by decide +kernel
theorem dX7_commonDivisor_31 : decode cX7_commonDivisor 31 = .ok (.goto (-24), 3) := by decide +kernel
theorem dX7_commonDivisor_34 : decode cX7_commonDivisor 34 = .ok (.iload_n 2, 1) := by decide +kernel
theorem dX7_commonDivisor_35 : decode cX7_commonDivisor 35 = .ok (.ireturn, 1) := by decide +kernel
set_option maxRecDepth 20000 in
theorem ggX7_kindsOfRow_X2_become : GoodIn wsX7_kindsOfRow wsX2_become := goodIn_r _ [8, 9, 10, 11, 12, 13, 14, 15, 16, 17, 18, 19, 20, 21, 22, 23, 24, 84, 85, 86, 87, 88, 89, 90, 91, 92, 93, 94, 95] (by decide +kernel) (by decide +kernel)
set_option maxRecDepth 20000 in
theorem gX7_kindsOfRow_X2_become : GoodIn wsX7_kindsOfRow (wsV RX7 143 RX2 yX2_become wsX2_become) := goodIn_app (goodIn_of _ (by decide +kernel)) ggX7_kindsOfRow_X2_become
set_option maxRecDepth 20000 in
theorem ggX7_kindsOfRow_X7_trialWears : GoodIn wsX7_kindsOfRow wsX7_trialWears := goodIn_r _ [29, 1, 30, 31, 32, 33, 34, 7, 35, 10, 24, 11, 36, 37, 38, 39, 23, 40, 41, 42, 43, 44, 45, 46, 47, 14, 20, 48, 49, 50, 51, 21, 52, 53, 54, 55, 22, 56, 57, 58, 59, 19, 60, 61, 62, 12, 63, 64, 65, 66, 67, 68, 69, 70, 71, 72, 73, 74, 75, 76, 77, 78, 79, 80, 81, 82, 83, 96, 97, 98, 99, 84, 85, 86, 87, 88, 89, 90, 91, 92, 93, 94, 95] (by decide +kernel) (by decide +kernel)
set_option maxRecDepth 20000 in
theorem gX7_kindsOfRow_X7_trialWears : GoodIn wsX7_kindsOfRow (wsV RX7 306 RX7 yX7_trialWears wsX7_trialWears) := goodIn_app (goodIn_of _ (by decide +kernel)) ggX7_kindsOfRow_X7_trialWears
theorem dX7_kindsOfRow_0 : decode cX7_kindsOfRow 0 = .ok (.iconst 0, 1) := by decide +kernel
theorem dX7_kindsOfRow_1 : decode cX7_kindsOfRow 1 = .ok (.istore 5, 2) := by decide +kernel
theorem dX7_kindsOfRow_3 : decode cX7_kindsOfRow 3 = .ok (.iconst 0, 1) := by decide +kernel
theorem dX7_kindsOfRow_4 : decode cX7_kindsOfRow 4 = .ok (.istore 6, 2) := by decide +kernel
theorem dX7_kindsOfRow_6 : decode cX7_kindsOfRow 6 = .ok (.iload 6, 2) := by decide +kernel
theorem dX7_kindsOfRow_8 : decode cX7_kindsOfRow 8 = .ok (.iconst 5, 1) := by decide +kernel
theorem dX7_kindsOfRow_9 : decode cX7_kindsOfRow 9 = .ok (.if_icmp .ge 52, 3) := by decide +kernel
theorem dX7_kindsOfRow_12 : decode cX7_kindsOfRow 12 = .ok (.aload_n 0, 1) := by decide +kernel
theorem dX7_kindsOfRow_13 : decode cX7_kindsOfRow 13 = .ok (.getfield 42, 3) := by decide +kernel
theorem dX7_kindsOfRow_16 : decode cX7_kindsOfRow 16 = .ok (.aload_n 0, 1) := by decide +kernel
theorem dX7_kindsOfRow_17 : decode cX7_kindsOfRow 17 = .ok (.getfield 10, 3) := by decide +kernel
theorem dX7_kindsOfRow_20 : decode cX7_kindsOfRow 20 = .ok (.invokevirtual 143, 3) := by decide +kernel
theorem dX7_kindsOfRow_23 : decode cX7_kindsOfRow 23 = .ok (.aload_n 0, 1) := by decide +kernel
theorem dX7_kindsOfRow_24 : decode cX7_kindsOfRow 24 = .ok (.getfield 42, 3) := by decide +kernel
theorem dX7_kindsOfRow_27 : decode cX7_kindsOfRow 27 = .ok (.getfield 121, 3) := by decide +kernel
theorem dX7_kindsOfRow_30 : decode cX7_kindsOfRow 30 = .ok (.iload_n 1, 1) := by decide +kernel
theorem dX7_kindsOfRow_31 : decode cX7_kindsOfRow 31 = .ok (.iload 6, 2) := by decide +kernel
theorem dX7_kindsOfRow_33 : decode cX7_kindsOfRow 33 = .ok (.iastore, 1) := by decide +kernel
theorem dX7_kindsOfRow_34 : decode cX7_kindsOfRow 34 = .ok (.aload_n 0, 1) := by decide +kernel
theorem dX7_kindsOfRow_35 : decode cX7_kindsOfRow 35 = .ok (.iload_n 1, 1) := by decide +kernel
theorem dX7_kindsOfRow_36 : decode cX7_kindsOfRow 36 = .ok (.aload_n 2, 1) := by decide +kernel
theorem dX7_kindsOfRow_37 : decode cX7_kindsOfRow 37 = .ok (.iload_n 3, 1) := by decide +kernel
theorem dX7_kindsOfRow_38 : decode cX7_kindsOfRow 38 = .ok (.iload 4, 2) := by decide +kernel
theorem dX7_kindsOfRow_40 : decode cX7_kindsOfRow 40 = .ok (.invokevirtual 306, 3) := by decide +kernel
theorem dX7_kindsOfRow_43 : decode cX7_kindsOfRow 43 = .ok (.ifCond .eq 12, 3) := by decide +kernel
theorem dX7_kindsOfRow_46 : decode cX7_kindsOfRow 46 = .ok (.iload 5, 2) := by decide +kernel
theorem dX7_kindsOfRow_48 : decode cX7_kindsOfRow 48 = .ok (.iconst 1, 1) := by decide +kernel
theorem dX7_kindsOfRow_49 : decode cX7_kindsOfRow 49 = .ok (.iload 6, 2) := by decide +kernel
theorem dX7_kindsOfRow_51 : decode cX7_kindsOfRow 51 = .ok (.ishl, 1) := by decide +kernel
theorem dX7_kindsOfRow_52 : decode cX7_kindsOfRow 52 = .ok (.ior, 1) := by decide +kernel
theorem dX7_kindsOfRow_53 : decode cX7_kindsOfRow 53 = .ok (.istore 5, 2) := by decide +kernel
theorem dX7_kindsOfRow_55 : decode cX7_kindsOfRow 55 = .ok (.iinc 6 1, 3) := by decide +kernel
theorem dX7_kindsOfRow_58 : decode cX7_kindsOfRow 58 = .ok (.goto (-52), 3) := by decide +kernel
theorem dX7_kindsOfRow_61 : decode cX7_kindsOfRow 61 = .ok (.iload 5, 2) := by decide +kernel
theorem dX7_kindsOfRow_63 : decode cX7_kindsOfRow 63 = .ok (.ireturn, 1) := by decide +kernel
set_option maxRecDepth 20000 in
theorem ggX7_hardsOfRow_X2_become : GoodIn wsX7_hardsOfRow wsX2_become := goodIn_r _ [9, 10, 11, 12, 13, 14, 15, 16, 17, 18, 19, 20, 21, 22, 23, 24, 25, 85, 86, 87, 88, 89, 90, 91, 92, 93, 94, 95, 96] (by decide +kernel) (by decide +kernel)
set_option maxRecDepth 20000 in
theorem gX7_hardsOfRow_X2_become : GoodIn wsX7_hardsOfRow (wsV RX7 143 RX2 yX2_become wsX2_become) := goodIn_app (goodIn_of _ (by decide +kernel)) ggX7_hardsOfRow_X2_become
set_option maxRecDepth 20000 in
theorem ggX7_hardsOfRow_X7_trialWears : GoodIn wsX7_hardsOfRow wsX7_trialWears := goodIn_r _ [30, 3, 31, 32, 33, 34, 35, 8, 36, 11, 25, 12, 37, 38, 39, 40, 24, 41, 42, 43, 44, 45, 46, 47, 48, 15, 21, 49, 50, 51, 52, 22, 53, 54, 55, 56, 23, 57, 58, 59, 60, 20, 61, 62, 63, 13, 64, 65, 66, 67, 68, 69, 70, 71, 72, 73, 74, 75, 76, 77, 78, 79, 80, 81, 82, 83, 84, 97, 98, 99, 100, 85, 86, 87, 88, 89, 90, 91, 92, 93, 94, 95, 96] (by decide +kernel) (by decide +kernel)
set_option maxRecDepth 20000 in
theorem gX7_hardsOfRow_X7_trialWears : GoodIn wsX7_hardsOfRow (wsV RX7 306 RX7 yX7_trialWears wsX7_trialWears) := goodIn_app (goodIn_of _ (by decide +kernel)) ggX7_hardsOfRow_X7_trialWears
theorem dX7_hardsOfRow_0 : decode cX7_hardsOfRow 0 = .ok (.aload_n 0, 1) := by decide +kernel
theorem dX7_hardsOfRow_1 : decode cX7_hardsOfRow 1 = .ok (.getfield 10, 3) := by decide +kernel
theorem dX7_hardsOfRow_4 : decode cX7_hardsOfRow 4 = .ok (.getfield 127, 3) := by decide +kernel
theorem dX7_hardsOfRow_7 : decode cX7_hardsOfRow 7 = .ok (.iload_n 1, 1) := by decide +kernel
theorem dX7_hardsOfRow_8 : decode cX7_hardsOfRow 8 = .ok (.iaload, 1) := by decide +kernel
theorem dX7_hardsOfRow_9 : decode cX7_hardsOfRow 9 = .ok (.istore 5, 2) := by decide +kernel
theorem dX7_hardsOfRow_11 : decode cX7_hardsOfRow 11 = .ok (.iconst 0, 1) := by decide +kernel
theorem dX7_hardsOfRow_12 : decode cX7_hardsOfRow 12 = .ok (.istore 6, 2) := by decide +kernel
theorem dX7_hardsOfRow_14 : decode cX7_hardsOfRow 14 = .ok (.iconst 1, 1) := by decide +kernel
theorem dX7_hardsOfRow_15 : decode cX7_hardsOfRow 15 = .ok (.istore 7, 2) := by decide +kernel
theorem dX7_hardsOfRow_17 : decode cX7_hardsOfRow 17 = .ok (.iload 7, 2) := by decide +kernel
theorem dX7_hardsOfRow_19 : decode cX7_hardsOfRow 19 = .ok (.bipush 9, 2) := by decide +kernel
theorem dX7_hardsOfRow_21 : decode cX7_hardsOfRow 21 = .ok (.if_icmp .gt 53, 3) := by decide +kernel
theorem dX7_hardsOfRow_24 : decode cX7_hardsOfRow 24 = .ok (.aload_n 0, 1) := by decide +kernel
theorem dX7_hardsOfRow_25 : decode cX7_hardsOfRow 25 = .ok (.getfield 42, 3) := by decide +kernel
theorem dX7_hardsOfRow_28 : decode cX7_hardsOfRow 28 = .ok (.aload_n 0, 1) := by decide +kernel
theorem dX7_hardsOfRow_29 : decode cX7_hardsOfRow 29 = .ok (.getfield 10, 3) := by decide +kernel
theorem dX7_hardsOfRow_32 : decode cX7_hardsOfRow 32 = .ok (.invokevirtual 143, 3) := by decide +kernel
theorem dX7_hardsOfRow_35 : decode cX7_hardsOfRow 35 = .ok (.aload_n 0, 1) := by decide +kernel
theorem dX7_hardsOfRow_36 : decode cX7_hardsOfRow 36 = .ok (.getfield 42, 3) := by decide +kernel
theorem dX7_hardsOfRow_39 : decode cX7_hardsOfRow 39 = .ok (.getfield 99, 3) := by decide +kernel
theorem dX7_hardsOfRow_42 : decode cX7_hardsOfRow 42 = .ok (.iload 5, 2) := by decide +kernel
theorem dX7_hardsOfRow_44 : decode cX7_hardsOfRow 44 = .ok (.iload 7, 2) := by decide +kernel
theorem dX7_hardsOfRow_46 : decode cX7_hardsOfRow 46 = .ok (.iastore, 1) := by decide +kernel
theorem dX7_hardsOfRow_47 : decode cX7_hardsOfRow 47 = .ok (.aload_n 0, 1) := by decide +kernel
theorem dX7_hardsOfRow_48 : decode cX7_hardsOfRow 48 = .ok (.iload_n 1, 1) := by decide +kernel
theorem dX7_hardsOfRow_49 : decode cX7_hardsOfRow 49 = .ok (.aload_n 2, 1) := by decide +kernel
theorem dX7_hardsOfRow_50 : decode cX7_hardsOfRow 50 = .ok (.iload_n 3, 1) := by decide +kernel
theorem dX7_hardsOfRow_51 : decode cX7_hardsOfRow 51 = .ok (.iload 4, 2) := by decide +kernel
theorem dX7_hardsOfRow_53 : decode cX7_hardsOfRow 53 = .ok (.invokevirtual 306, 3) := by decide +kernel
theorem dX7_hardsOfRow_56 : decode cX7_hardsOfRow 56 = .ok (.ifCond .eq 12, 3) := by decide +kernel
theorem dX7_hardsOfRow_59 : decode cX7_hardsOfRow 59 = .ok (.iload 6, 2) := by decide +kernel
theorem dX7_hardsOfRow_61 : decode cX7_hardsOfRow 61 = .ok (.iconst 1, 1) := by decide +kernel
theorem dX7_hardsOfRow_62 : decode cX7_hardsOfRow 62 = .ok (.iload 7, 2) := by decide +kernel
theorem dX7_hardsOfRow_64 : decode cX7_hardsOfRow 64 = .ok (.ishl, 1) := by decide +kernel
theorem dX7_hardsOfRow_65 : decode cX7_hardsOfRow 65 = .ok (.ior, 1) := by decide +kernel
theorem dX7_hardsOfRow_66 : decode cX7_hardsOfRow 66 = .ok (.istore 6, 2) := by decide +kernel
theorem dX7_hardsOfRow_68 : decode cX7_hardsOfRow 68 = .ok (.iinc 7 1, 3) := by decide +kernel
theorem dX7_hardsOfRow_71 : decode cX7_hardsOfRow 71 = .ok (.goto (-54), 3) := by decide +kernel
theorem dX7_hardsOfRow_74 : decode cX7_hardsOfRow 74 = .ok (.iload 6, 2) := by decide +kernel
theorem dX7_hardsOfRow_76 : decode cX7_hardsOfRow 76 = .ok (.ireturn, 1) := by decide +kernel
set_option maxRecDepth 20000 in
theorem ggX7_trialWears_X2_passDay : GoodIn wsX7_trialWears wsX2_passDay := goodIn_r _ [8, 9, 10, 11, 12, 13, 14, 7, 15, 16, 17, 18, 19, 20, 21, 22, 23, 24, 25, 26, 27, 28, 29, 30, 31, 32, 33, 34, 35, 36, 37, 38, 39, 40, 41, 42, 43, 44, 45, 46, 47, 48, 49, 50, 51, 52, 53, 54, 71, 72, 73, 74, 75, 76, 77, 78, 79, 80, 81, 82] (by decide +kernel) (by decide +kernel)
set_option maxRecDepth 20000 in
theorem gX7_trialWears_X2_passDay : GoodIn wsX7_trialWears (wsV RX7 194 RX2 yX2_passDay wsX2_passDay) := goodIn_app (goodIn_of _ (by decide +kernel)) ggX7_trialWears_X2_passDay
theorem dX7_trialWears_0 : decode cX7_trialWears 0 = .ok (.iconst 0, 1) := by decide +kernel
theorem dX7_trialWears_1 : decode cX7_trialWears 1 = .ok (.istore 5, 2) := by decide +kernel
theorem dX7_trialWears_3 : decode cX7_trialWears 3 = .ok (.iload 5, 2) := by decide +kernel
theorem dX7_trialWears_5 : decode cX7_trialWears 5 = .ok (.iload 4, 2) := by decide +kernel
theorem dX7_trialWears_7 : decode cX7_trialWears 7 = .ok (.if_icmp .ge 42, 3) := by decide +kernel
theorem dX7_trialWears_10 : decode cX7_trialWears 10 = .ok (.aload_n 0, 1) := by decide +kernel
theorem dX7_trialWears_11 : decode cX7_trialWears 11 = .ok (.getfield 42, 3) := by decide +kernel
theorem dX7_trialWears_14 : decode cX7_trialWears 14 = .ok (.iconst 0, 1) := by decide +kernel
theorem dX7_trialWears_15 : decode cX7_trialWears 15 = .ok (.invokevirtual 194, 3) := by decide +kernel
theorem dX7_trialWears_18 : decode cX7_trialWears 18 = .ok (.aload_n 2, 1) := by decide +kernel
theorem dX7_trialWears_19 : decode cX7_trialWears 19 = .ok (.getfield 269, 3) := by decide +kernel
theorem dX7_trialWears_22 : decode cX7_trialWears 22 = .ok (.iload_n 3, 1) := by decide +kernel
theorem dX7_trialWears_23 : decode cX7_trialWears 23 = .ok (.iload 5, 2) := by decide +kernel
theorem dX7_trialWears_25 : decode cX7_trialWears 25 = .ok (.iadd, 1) := by decide +kernel
theorem dX7_trialWears_26 : decode cX7_trialWears 26 = .ok (.laload, 1) := by decide +kernel
theorem dX7_trialWears_27 : decode cX7_trialWears 27 = .ok (.aload_n 0, 1) := by decide +kernel
theorem dX7_trialWears_28 : decode cX7_trialWears 28 = .ok (.getfield 42, 3) := by decide +kernel
theorem dX7_trialWears_31 : decode cX7_trialWears 31 = .ok (.getfield 124, 3) := by decide +kernel
theorem dX7_trialWears_34 : decode cX7_trialWears 34 = .ok (.iload_n 1, 1) := by decide +kernel
theorem dX7_trialWears_35 : decode cX7_trialWears 35 = .ok (.iaload, 1) := by decide +kernel
theorem dX7_trialWears_36 : decode cX7_trialWears 36 = .ok (.i2l, 1) := by decide +kernel
theorem dX7_trialWears_37 : decode cX7_trialWears 37 = .ok (.lcmp, 1) := by decide +kernel
theorem dX7_trialWears_38 : decode cX7_trialWears 38 = .ok (.ifCond .eq 5, 3) := by decide +kernel
theorem dX7_trialWears_41 : decode cX7_trialWears 41 = .ok (.iconst 0, 1) := by decide +kernel
theorem dX7_trialWears_42 : decode cX7_trialWears 42 = .ok (.ireturn, 1) := by decide +kernel
theorem dX7_trialWears_43 : decode cX7_trialWears 43 = .ok (.iinc 5 1, 3) := by decide +kernel
theorem dX7_trialWears_46 : decode cX7_trialWears 46 = .ok (.goto (-43), 3) := by decide +kernel
theorem dX7_trialWears_49 : decode cX7_trialWears 49 = .ok (.iconst 1, 1) := by decide +kernel
theorem dX7_trialWears_50 : decode cX7_trialWears 50 = .ok (.ireturn, 1) := by decide +kernel
theorem dX7_waysTogether_0 : decode cX7_waysTogether 0 = .ok (.iconst 0, 1) := by decide +kernel
theorem dX7_waysTogether_1 : decode cX7_waysTogether 1 = .ok (.istore 5, 2) := by decide +kernel
theorem dX7_waysTogether_3 : decode cX7_waysTogether 3 = .ok (.iload 5, 2) := by decide +kernel
theorem dX7_waysTogether_5 : decode cX7_waysTogether 5 = .ok (.iload_n 1, 1) := by decide +kernel
theorem dX7_waysTogether_6 : decode cX7_waysTogether 6 = .ok (.if_icmp .gt 17, 3) := by decide +kernel
theorem dX7_waysTogether_9 : decode cX7_waysTogether 9 = .ok (.aload_n 0, 1) := by decide +kernel
theorem dX7_waysTogether_10 : decode cX7_waysTogether 10 = .ok (.getfield 66, 3) := by decide +kernel
theorem dX7_waysTogether_13 : decode cX7_waysTogether 13 = .ok (.iload 5, 2) := by decide +kernel
theorem dX7_waysTogether_15 : decode cX7_waysTogether 15 = .ok (.iconst 0, 1) := by decide +kernel
theorem dX7_waysTogether_16 : decode cX7_waysTogether 16 = .ok (.iastore, 1) := by decide +kernel
theorem dX7_waysTogether_17 : decode cX7_waysTogether 17 = .ok (.iinc 5 1, 3) := by decide +kernel
theorem dX7_waysTogether_20 : decode cX7_waysTogether 20 = .ok (.goto (-17), 3) := by decide +kernel
theorem dX7_waysTogether_23 : decode cX7_waysTogether 23 = .ok (.aload_n 0, 1) := by decide +kernel
theorem dX7_waysTogether_24 : decode cX7_waysTogether 24 = .ok (.getfield 66, 3) := by decide +kernel
theorem dX7_waysTogether_27 : decode cX7_waysTogether 27 = .ok (.iconst 0, 1) := by decide +kernel
theorem dX7_waysTogether_28 : decode cX7_waysTogether 28 = .ok (.iconst 1, 1) := by decide +kernel
theorem dX7_waysTogether_29 : decode cX7_waysTogether 29 = .ok (.iastore, 1) := by decide +kernel
theorem dX7_waysTogether_30 : decode cX7_waysTogether 30 = .ok (.iload_n 3, 1) := by decide +kernel
theorem dX7_waysTogether_31 : decode cX7_waysTogether 31 = .ok (.istore 5, 2) := by decide +kernel
theorem dX7_waysTogether_33 : decode cX7_waysTogether 33 = .ok (.iload 5, 2) := by decide +kernel
theorem dX7_waysTogether_35 : decode cX7_waysTogether 35 = .ok (.iload_n 3, 1) := by decide +kernel
theorem dX7_waysTogether_36 : decode cX7_waysTogether 36 = .ok (.iload 4, 2) := by decide +kernel
theorem dX7_waysTogether_38 : decode cX7_waysTogether 38 = .ok (.iadd, 1) := by decide +kernel
theorem dX7_waysTogether_39 : decode cX7_waysTogether 39 = .ok (.if_icmp .ge 61, 3) := by decide +kernel
theorem dX7_waysTogether_42 : decode cX7_waysTogether 42 = .ok (.aload_n 2, 1) := by decide +kernel
theorem dX7_waysTogether_43 : decode cX7_waysTogether 43 = .ok (.iload 5, 2) := by decide +kernel
theorem dX7_waysTogether_45 : decode cX7_waysTogether 45 = .ok (.laload, 1) := by decide +kernel
theorem dX7_waysTogether_46 : decode cX7_waysTogether 46 = .ok (.l2i, 1) := by decide +kernel
theorem dX7_waysTogether_47 : decode cX7_waysTogether 47 = .ok (.istore 6, 2) := by decide +kernel
theorem dX7_waysTogether_49 : decode cX7_waysTogether 49 = .ok (.iload 6, 2) := by decide +kernel
theorem dX7_waysTogether_51 : decode cX7_waysTogether 51 = .ok (.istore 7, 2) := by decide +kernel
theorem dX7_waysTogether_53 : decode cX7_waysTogether 53 = .ok (.iload 7, 2) := by decide +kernel
theorem dX7_waysTogether_55 : decode cX7_waysTogether 55 = .ok (.iload_n 1, 1) := by decide +kernel
theorem dX7_waysTogether_56 : decode cX7_waysTogether 56 = .ok (.if_icmp .gt 38, 3) := by decide +kernel
theorem dX7_waysTogether_59 : decode cX7_waysTogether 59 = .ok (.aload_n 0, 1) := by decide +kernel
theorem dX7_waysTogether_60 : decode cX7_waysTogether 60 = .ok (.getfield 66, 3) := by decide +kernel
theorem dX7_waysTogether_63 : decode cX7_waysTogether 63 = .ok (.iload 7, 2) := by decide +kernel
theorem dX7_waysTogether_65 : decode cX7_waysTogether 65 = .ok (.aload_n 0, 1) := by decide +kernel
theorem dX7_waysTogether_66 : decode cX7_waysTogether 66 = .ok (.getfield 66, 3) := by decide +kernel
theorem dX7_waysTogether_69 : decode cX7_waysTogether 69 = .ok (.iload 7, 2) := by decide +kernel
theorem dX7_waysTogether_71 : decode cX7_waysTogether 71 = .ok (.iaload, 1) := by decide +kernel
theorem dX7_waysTogether_72 : decode cX7_waysTogether 72 = .ok (.aload_n 0, 1) := by decide +kernel
theorem dX7_waysTogether_73 : decode cX7_waysTogether 73 = .ok (.getfield 66, 3) := by decide +kernel
theorem dX7_waysTogether_76 : decode cX7_waysTogether 76 = .ok (.iload 7, 2) := by decide +kernel
theorem dX7_waysTogether_78 : decode cX7_waysTogether 78 = .ok (.iload 6, 2) := by decide +kernel
theorem dX7_waysTogether_80 : decode cX7_waysTogether 80 = .ok (.isub, 1) := by decide +kernel
theorem dX7_waysTogether_81 : decode cX7_waysTogether 81 = .ok (.iaload, 1) := by decide +kernel
theorem dX7_waysTogether_82 : decode cX7_waysTogether 82 = .ok (.iadd, 1) := by decide +kernel
theorem dX7_waysTogether_83 : decode cX7_waysTogether 83 = .ok (.ldc_w 310, 3) := by decide +kernel
theorem dX7_waysTogether_86 : decode cX7_waysTogether 86 = .ok (.irem, 1) := by decide +kernel
theorem dX7_waysTogether_87 : decode cX7_waysTogether 87 = .ok (.iastore, 1) := by decide +kernel
theorem dX7_waysTogether_88 : decode cX7_waysTogether 88 = .ok (.iinc 7 1, 3) := by decide +kernel
theorem dX7_waysTogether_91 : decode cX7_waysTogether 91 = .ok (.goto (-38), 3) := by decide +kernel
theorem dX7_waysTogether_94 : decode cX7_waysTogether 94 = .ok (.iinc 5 1, 3) := by decide +kernel
theorem dX7_waysTogether_97 : decode cX7_waysTogether 97 = .ok (.goto (-64), 3) := by decide +kernel
theorem dX7_waysTogether_100 : decode cX7_waysTogether 100 = .ok (.aload_n 0, 1) := by decide +kernel
theorem dX7_waysTogether_101 : decode cX7_waysTogether 101 = .ok (.getfield 66, 3) := by decide +kernel
theorem dX7_waysTogether_104 : decode cX7_waysTogether 104 = .ok (.iload_n 1, 1) := by decide +kernel
theorem dX7_waysTogether_105 : decode cX7_waysTogether 105 = .ok (.iaload, 1) := by decide +kernel
theorem dX7_waysTogether_106 : decode cX7_waysTogether 106 = .ok (.ireturn, 1) := by decide +kernel
theorem dX8_init_0 : decode cX8_init 0 = .ok (.aload_n 0, 1) := by decide +kernel
theorem dX8_init_1 : decode cX8_init 1 = .ok (.invokespecial 1, 3) := by decide +kernel
theorem dX8_init_4 : decode cX8_init 4 = .ok (.aload_n 0, 1) := by decide +kernel
theorem dX8_init_5 : decode cX8_init 5 = .ok (.sipush 674, 3) := by decide +kernel
theorem dX8_init_8 : decode cX8_init 8 = .ok (.newarray .int, 2) := by decide +kernel
theorem dX8_init_10 : decode cX8_init 10 = .ok (.putfield 7, 3) := by decide +kernel
theorem dX8_init_13 : decode cX8_init 13 = .ok (.aload_n 0, 1) := by decide +kernel
theorem dX8_init_14 : decode cX8_init 14 = .ok (.bipush 90, 2) := by decide +kernel
theorem dX8_init_16 : decode cX8_init 16 = .ok (.newarray .int, 2) := by decide +kernel
theorem dX8_init_18 : decode cX8_init 18 = .ok (.putfield 13, 3) := by decide +kernel
theorem dX8_init_21 : decode cX8_init 21 = .ok (.aload_n 0, 1) := by decide +kernel
theorem dX8_init_22 : decode cX8_init 22 = .ok (.bipush 96, 2) := by decide +kernel
theorem dX8_init_24 : decode cX8_init 24 = .ok (.newarray .long, 2) := by decide +kernel
theorem dX8_init_26 : decode cX8_init 26 = .ok (.putfield 16, 3) := by decide +kernel
theorem dX8_init_29 : decode cX8_init 29 = .ok (.aload_n 0, 1) := by decide +kernel
theorem dX8_init_30 : decode cX8_init 30 = .ok (.iconst 4, 1) := by decide +kernel
theorem dX8_init_31 : decode cX8_init 31 = .ok (.newarray .int, 2) := by decide +kernel
theorem dX8_init_33 : decode cX8_init 33 = .ok (.putfield 20, 3) := by decide +kernel
theorem dX8_init_36 : decode cX8_init 36 = .ok (.aload_n 0, 1) := by decide +kernel
theorem dX8_init_37 : decode cX8_init 37 = .ok (.iconst 4, 1) := by decide +kernel
theorem dX8_init_38 : decode cX8_init 38 = .ok (.newarray .int, 2) := by decide +kernel
theorem dX8_init_40 : decode cX8_init 40 = .ok (.putfield 23, 3) := by decide +kernel
theorem dX8_init_43 : decode cX8_init 43 = .ok (.aload_n 0, 1) := by decide +kernel
theorem dX8_init_44 : decode cX8_init 44 = .ok (.iconst 5, 1) := by decide +kernel
theorem dX8_init_45 : decode cX8_init 45 = .ok (.newarray .int, 2) := by decide +kernel
theorem dX8_init_47 : decode cX8_init 47 = .ok (.putfield 26, 3) := by decide +kernel
theorem dX8_init_50 : decode cX8_init 50 = .ok (.aload_n 0, 1) := by decide +kernel
theorem dX8_init_51 : decode cX8_init 51 = .ok (.bipush 7, 2) := by decide +kernel
theorem dX8_init_53 : decode cX8_init 53 = .ok (.newarray .int, 2) := by decide +kernel
theorem dX8_init_55 : decode cX8_init 55 = .ok (.putfield 29, 3) := by decide +kernel
theorem dX8_init_58 : decode cX8_init 58 = .ok (.aload_n 0, 1) := by decide +kernel
theorem dX8_init_59 : decode cX8_init 59 = .ok (.bipush 6, 2) := by decide +kernel
theorem dX8_init_61 : decode cX8_init 61 = .ok (.newarray .int, 2) := by decide +kernel
theorem dX8_init_63 : decode cX8_init 63 = .ok (.putfield 32, 3) := by decide +kernel
theorem dX8_init_66 : decode cX8_init 66 = .ok (.aload_n 0, 1) := by decide +kernel
theorem dX8_init_67 : decode cX8_init 67 = .ok (.sipush 308, 3) := by decide +kernel
theorem dX8_init_70 : decode cX8_init 70 = .ok (.newarray .int, 2) := by decide +kernel
theorem dX8_init_72 : decode cX8_init 72 = .ok (.putfield 35, 3) := by decide +kernel
theorem dX8_init_75 : decode cX8_init 75 = .ok (.aload_n 0, 1) := by decide +kernel
theorem dX8_init_76 : decode cX8_init 76 = .ok (.bipush 100, 2) := by decide +kernel
theorem dX8_init_78 : decode cX8_init 78 = .ok (.newarray .int, 2) := by decide +kernel
theorem dX8_init_80 : decode cX8_init 80 = .ok (.putfield 38, 3) := by decide +kernel
theorem dX8_init_83 : decode cX8_init 83 = .ok (.aload_n 0, 1) := by decide +kernel
theorem dX8_init_84 : decode cX8_init 84 = .ok (.bipush 24, 2) := by decide +kernel
theorem dX8_init_86 : decode cX8_init 86 = .ok (.newarray .long, 2) := by decide +kernel
theorem dX8_init_88 : decode cX8_init 88 = .ok (.putfield 41, 3) := by decide +kernel
theorem dX8_init_91 : decode cX8_init 91 = .ok (.iconst 0, 1) := by decide +kernel
theorem dX8_init_92 : decode cX8_init 92 = .ok (.istore_n 1, 1) := by decide +kernel
theorem dX8_init_93 : decode cX8_init 93 = .ok (.iload_n 1, 1) := by decide +kernel
theorem dX8_init_94 : decode cX8_init 94 = .ok (.iconst 4, 1) := by decide +kernel
theorem dX8_init_95 : decode cX8_init 95 = .ok (.if_icmp .ge 16, 3) := by decide +kernel
theorem dX8_init_98 : decode cX8_init 98 = .ok (.aload_n 0, 1) := by decide +kernel
theorem dX8_init_99 : decode cX8_init 99 = .ok (.getfield 20, 3) := by decide +kernel
theorem dX8_init_102 : decode cX8_init 102 = .ok (.iload_n 1, 1) := by decide +kernel
theorem dX8_init_103 : decode cX8_init 103 = .ok (.iconst (-1), 1) := by decide +kernel
theorem dX8_init_104 : decode cX8_init 104 = .ok (.iastore, 1) := by decide +kernel
theorem dX8_init_105 : decode cX8_init 105 = .ok (.iinc 1 1, 3) := by decide +kernel
theorem dX8_init_108 : decode cX8_init 108 = .ok (.goto (-15), 3) := by decide +kernel
theorem dX8_init_111 : decode cX8_init 111 = .ok (.aload_n 0, 1) := by decide +kernel
theorem dX8_init_112 : decode cX8_init 112 = .ok (.getfield 7, 3) := by decide +kernel
theorem dX8_init_115 : decode cX8_init 115 = .ok (.iconst 3, 1) := by decide +kernel
theorem dX8_init_116 : decode cX8_init 116 = .ok (.iconst 1, 1) := by decide +kernel
theorem dX8_init_117 : decode cX8_init 117 = .ok (.iastore, 1) := by decide +kernel
theorem dX8_init_118 : decode cX8_init 118 = .ok (.return_, 1) := by decide +kernel
theorem dX8_in_0 : decode cX8_in 0 = .ok (.lload_n 0, 1) := by decide +kernel
theorem dX8_in_1 : decode cX8_in 1 = .ok (.lload_n 2, 1) := by decide +kernel
theorem dX8_in_2 : decode cX8_in 2 = .ok (.lcmp, 1) := by decide +kernel
theorem dX8_in_3 : decode cX8_in 3 = .ok (.ifCond .lt 14, 3) := by decide +kernel
theorem dX8_in_6 : decode cX8_in 6 = .ok (.lload_n 0, 1) := by decide +kernel
theorem dX8_in_7 : decode cX8_in 7 = .ok (.lload 4, 2) := by decide +kernel
theorem dX8_in_9 : decode cX8_in 9 = .ok (.lcmp, 1) := by decide +kernel
theorem dX8_in_10 : decode cX8_in 10 = .ok (.ifCond .gt 7, 3) := by decide +kernel
theorem dX8_in_13 : decode cX8_in 13 = .ok (.iconst 1, 1) := by decide +kernel
theorem dX8_in_14 : decode cX8_in 14 = .ok (.goto 4, 3) := by decide +kernel
theorem dX8_in_17 : decode cX8_in 17 = .ok (.iconst 0, 1) := by decide +kernel
theorem dX8_in_18 : decode cX8_in 18 = .ok (.ireturn, 1) := by decide +kernel
theorem dX8_has_0 : decode cX8_has 0 = .ok (.iload_n 0, 1) := by decide +kernel
theorem dX8_has_1 : decode cX8_has 1 = .ok (.iload_n 1, 1) := by decide +kernel
theorem dX8_has_2 : decode cX8_has 2 = .ok (.ishr, 1) := by decide +kernel
theorem dX8_has_3 : decode cX8_has 3 = .ok (.iconst 1, 1) := by decide +kernel
theorem dX8_has_4 : decode cX8_has 4 = .ok (.iand, 1) := by decide +kernel
theorem dX8_has_5 : decode cX8_has 5 = .ok (.iconst 1, 1) := by decide +kernel
theorem dX8_has_6 : decode cX8_has 6 = .ok (.if_icmp .ne 7, 3) := by decide +kernel
theorem dX8_has_9 : decode cX8_has 9 = .ok (.iconst 1, 1) := by decide +kernel
theorem dX8_has_10 : decode cX8_has 10 = .ok (.goto 4, 3) := by decide +kernel
theorem dX8_has_13 : decode cX8_has 13 = .ok (.iconst 0, 1) := by decide +kernel
theorem dX8_has_14 : decode cX8_has 14 = .ok (.ireturn, 1) := by decide +kernel
theorem dX8_bring_0 : decode cX8_bring 0 = .ok (.iconst 0, 1) := by decide +kernel
theorem dX8_bring_1 : decode cX8_bring 1 = .ok (.istore 4, 2) := by decide +kernel
theorem dX8_bring_3 : decode cX8_bring 3 = .ok (.iload 4, 2) := by decide +kernel
theorem dX8_bring_5 : decode cX8_bring 5 = .ok (.iload_n 3, 1) := by decide +kernel
theorem dX8_bring_6 : decode cX8_bring 6 = .ok (.if_icmp .ge 27, 3) := by decide +kernel
theorem dX8_bring_9 : decode cX8_bring 9 = .ok (.aload_n 0, 1) := by decide +kernel
theorem dX8_bring_10 : decode cX8_bring 10 = .ok (.getfield 7, 3) := by decide +kernel
theorem dX8_bring_13 : decode cX8_bring 13 = .ok (.iload_n 2, 1) := by decide +kernel
theorem dX8_bring_14 : decode cX8_bring 14 = .ok (.iload 4, 2) := by decide +kernel
theorem dX8_bring_16 : decode cX8_bring 16 = .ok (.iadd, 1) := by decide +kernel
theorem dX8_bring_17 : decode cX8_bring 17 = .ok (.aload_n 0, 1) := by decide +kernel
theorem dX8_bring_18 : decode cX8_bring 18 = .ok (.getfield 7, 3) := by decide +kernel
theorem dX8_bring_21 : decode cX8_bring 21 = .ok (.iload_n 1, 1) := by decide +kernel
theorem dX8_bring_22 : decode cX8_bring 22 = .ok (.iload 4, 2) := by decide +kernel
theorem dX8_bring_24 : decode cX8_bring 24 = .ok (.iadd, 1) := by decide +kernel
theorem dX8_bring_25 : decode cX8_bring 25 = .ok (.iaload, 1) := by decide +kernel
theorem dX8_bring_26 : decode cX8_bring 26 = .ok (.iastore, 1) := by decide +kernel
theorem dX8_bring_27 : decode cX8_bring 27 = .ok (.iinc 4 1, 3) := by decide +kernel
theorem dX8_bring_30 : decode cX8_bring 30 = .ok (.goto (-27), 3) := by decide +kernel
theorem dX8_bring_33 : decode cX8_bring 33 = .ok (.return_, 1) := by decide +kernel
set_option maxRecDepth 20000 in
theorem ggX8_isMark_X8_in : GoodIn wsX8_isMark wsX8_in := goodIn_r _ [5] (by decide +kernel) (by decide +kernel)
set_option maxRecDepth 20000 in
theorem gX8_isMark_X8_in : GoodIn wsX8_isMark (va_wsS RX8 44 yX8_in wsX8_in) := goodIn_app (goodIn_of _ (by decide +kernel)) ggX8_isMark_X8_in
theorem dX8_isMark_0 : decode cX8_isMark 0 = .ok (.iload_n 1, 1) := by decide +kernel
theorem dX8_isMark_1 : decode cX8_isMark 1 = .ok (.i2l, 1) := by decide +kernel
theorem dX8_isMark_2 : decode cX8_isMark 2 = .ok (.lconst 0, 1) := by decide +kernel
theorem dX8_isMark_3 : decode cX8_isMark 3 = .ok (.aload_n 0, 1) := by decide +kernel
theorem dX8_isMark_4 : decode cX8_isMark 4 = .ok (.getfield 7, 3) := by decide +kernel
theorem dX8_isMark_7 : decode cX8_isMark 7 = .ok (.iconst 0, 1) := by decide +kernel
theorem dX8_isMark_8 : decode cX8_isMark 8 = .ok (.iaload, 1) := by decide +kernel
theorem dX8_isMark_9 : decode cX8_isMark 9 = .ok (.iconst 1, 1) := by decide +kernel
theorem dX8_isMark_10 : decode cX8_isMark 10 = .ok (.isub, 1) := by decide +kernel
theorem dX8_isMark_11 : decode cX8_isMark 11 = .ok (.i2l, 1) := by decide +kernel
theorem dX8_isMark_12 : decode cX8_isMark 12 = .ok (.invokestatic 44, 3) := by decide +kernel
theorem dX8_isMark_15 : decode cX8_isMark 15 = .ok (.ireturn, 1) := by decide +kernel
set_option maxRecDepth 20000 in
theorem ggX8_isMonk_X8_in : GoodIn wsX8_isMonk wsX8_in := goodIn_r _ [5] (by decide +kernel) (by decide +kernel)
set_option maxRecDepth 20000 in
theorem gX8_isMonk_X8_in : GoodIn wsX8_isMonk (va_wsS RX8 44 yX8_in wsX8_in) := goodIn_app (goodIn_of _ (by decide +kernel)) ggX8_isMonk_X8_in
theorem dX8_isMonk_0 : decode cX8_isMonk 0 = .ok (.iload_n 1, 1) := by decide +kernel
theorem dX8_isMonk_1 : decode cX8_isMonk 1 = .ok (.i2l, 1) := by decide +kernel
theorem dX8_isMonk_2 : decode cX8_isMonk 2 = .ok (.lconst 0, 1) := by decide +kernel
theorem dX8_isMonk_3 : decode cX8_isMonk 3 = .ok (.aload_n 0, 1) := by decide +kernel
theorem dX8_isMonk_4 : decode cX8_isMonk 4 = .ok (.getfield 7, 3) := by decide +kernel
theorem dX8_isMonk_7 : decode cX8_isMonk 7 = .ok (.iconst 1, 1) := by decide +kernel
theorem dX8_isMonk_8 : decode cX8_isMonk 8 = .ok (.iaload, 1) := by decide +kernel
theorem dX8_isMonk_9 : decode cX8_isMonk 9 = .ok (.iconst 1, 1) := by decide +kernel
theorem dX8_isMonk_10 : decode cX8_isMonk 10 = .ok (.isub, 1) := by decide +kernel
theorem dX8_isMonk_11 : decode cX8_isMonk 11 = .ok (.i2l, 1) := by decide +kernel
theorem dX8_isMonk_12 : decode cX8_isMonk 12 = .ok (.invokestatic 44, 3) := by decide +kernel
theorem dX8_isMonk_15 : decode cX8_isMonk 15 = .ok (.ireturn, 1) := by decide +kernel
theorem dX8_addsMark_0 : decode cX8_addsMark 0 = .ok (.aload_n 0, 1) := by decide +kernel
theorem dX8_addsMark_1 : decode cX8_addsMark 1 = .ok (.getfield 7, 3) := by decide +kernel
theorem dX8_addsMark_4 : decode cX8_addsMark 4 = .ok (.iload_n 1, 1) := by decide +kernel
theorem dX8_addsMark_5 : decode cX8_addsMark 5 = .ok (.iconst 0, 1) := by decide +kernel
theorem dX8_addsMark_6 : decode cX8_addsMark 6 = .ok (.iadd, 1) := by decide +kernel
theorem dX8_addsMark_7 : decode cX8_addsMark 7 = .ok (.iaload, 1) := by decide +kernel
theorem dX8_addsMark_8 : decode cX8_addsMark 8 = .ok (.istore 5, 2) := by decide +kernel
theorem dX8_addsMark_10 : decode cX8_addsMark 10 = .ok (.aload_n 0, 1) := by decide +kernel
theorem dX8_addsMark_11 : decode cX8_addsMark 11 = .ok (.getfield 7, 3) := by decide +kernel
theorem dX8_addsMark_14 : decode cX8_addsMark 14 = .ok (.iload_n 1, 1) := by decide +kernel
theorem dX8_addsMark_15 : decode cX8_addsMark 15 = .ok (.iconst 5, 1) := by decide +kernel
theorem dX8_addsMark_16 : decode cX8_addsMark 16 = .ok (.iadd, 1) := by decide +kernel
theorem dX8_addsMark_17 : decode cX8_addsMark 17 = .ok (.iload 5, 2) := by decide +kernel
theorem dX8_addsMark_19 : decode cX8_addsMark 19 = .ok (.iadd, 1) := by decide +kernel
theorem dX8_addsMark_20 : decode cX8_addsMark 20 = .ok (.iload_n 2, 1) := by decide +kernel
theorem dX8_addsMark_21 : decode cX8_addsMark 21 = .ok (.iastore, 1) := by decide +kernel
theorem dX8_addsMark_22 : decode cX8_addsMark 22 = .ok (.aload_n 0, 1) := by decide +kernel
theorem dX8_addsMark_23 : decode cX8_addsMark 23 = .ok (.getfield 7, 3) := by decide +kernel
theorem dX8_addsMark_26 : decode cX8_addsMark 26 = .ok (.iload_n 1, 1) := by decide +kernel
theorem dX8_addsMark_27 : decode cX8_addsMark 27 = .ok (.bipush 33, 2) := by decide +kernel
theorem dX8_addsMark_29 : decode cX8_addsMark 29 = .ok (.iadd, 1) := by decide +kernel
theorem dX8_addsMark_30 : decode cX8_addsMark 30 = .ok (.iload 5, 2) := by decide +kernel
theorem dX8_addsMark_32 : decode cX8_addsMark 32 = .ok (.iadd, 1) := by decide +kernel
theorem dX8_addsMark_33 : decode cX8_addsMark 33 = .ok (.iload_n 3, 1) := by decide +kernel
theorem dX8_addsMark_34 : decode cX8_addsMark 34 = .ok (.iastore, 1) := by decide +kernel
theorem dX8_addsMark_35 : decode cX8_addsMark 35 = .ok (.aload_n 0, 1) := by decide +kernel
theorem dX8_addsMark_36 : decode cX8_addsMark 36 = .ok (.getfield 7, 3) := by decide +kernel
theorem dX8_addsMark_39 : decode cX8_addsMark 39 = .ok (.iload_n 1, 1) := by decide +kernel
theorem dX8_addsMark_40 : decode cX8_addsMark 40 = .ok (.bipush 11, 2) := by decide +kernel
theorem dX8_addsMark_42 : decode cX8_addsMark 42 = .ok (.iadd, 1) := by decide +kernel
theorem dX8_addsMark_43 : decode cX8_addsMark 43 = .ok (.iload 5, 2) := by decide +kernel
theorem dX8_addsMark_45 : decode cX8_addsMark 45 = .ok (.iadd, 1) := by decide +kernel
theorem dX8_addsMark_46 : decode cX8_addsMark 46 = .ok (.iload 4, 2) := by decide +kernel
theorem dX8_addsMark_48 : decode cX8_addsMark 48 = .ok (.iastore, 1) := by decide +kernel
theorem dX8_addsMark_49 : decode cX8_addsMark 49 = .ok (.aload_n 0, 1) := by decide +kernel
theorem dX8_addsMark_50 : decode cX8_addsMark 50 = .ok (.getfield 7, 3) := by decide +kernel
theorem dX8_addsMark_53 : decode cX8_addsMark 53 = .ok (.iload_n 1, 1) := by decide +kernel
theorem dX8_addsMark_54 : decode cX8_addsMark 54 = .ok (.bipush 17, 2) := by decide +kernel
theorem dX8_addsMark_56 : decode cX8_addsMark 56 = .ok (.iadd, 1) := by decide +kernel
theorem dX8_addsMark_57 : decode cX8_addsMark 57 = .ok (.iload 5, 2) := by decide +kernel
theorem dX8_addsMark_59 : decode cX8_addsMark 59 = .ok (.iadd, 1) := by decide +kernel
theorem dX8_addsMark_60 : decode cX8_addsMark 60 = .ok (.iconst 0, 1) := by decide +kernel
theorem dX8_addsMark_61 : decode cX8_addsMark 61 = .ok (.iastore, 1) := by decide +kernel
theorem dX8_addsMark_62 : decode cX8_addsMark 62 = .ok (.aload_n 0, 1) := by decide +kernel
theorem dX8_addsMark_63 : decode cX8_addsMark 63 = .ok (.getfield 7, 3) := by decide +kernel
theorem dX8_addsMark_66 : decode cX8_addsMark 66 = .ok (.iload_n 1, 1) := by decide +kernel
theorem dX8_addsMark_67 : decode cX8_addsMark 67 = .ok (.iconst 0, 1) := by decide +kernel
theorem dX8_addsMark_68 : decode cX8_addsMark 68 = .ok (.iadd, 1) := by decide +kernel
theorem dX8_addsMark_69 : decode cX8_addsMark 69 = .ok (.dup2, 1) := by decide +kernel
theorem dX8_addsMark_70 : decode cX8_addsMark 70 = .ok (.iaload, 1) := by decide +kernel
theorem dX8_addsMark_71 : decode cX8_addsMark 71 = .ok (.iconst 1, 1) := by decide +kernel
theorem dX8_addsMark_72 : decode cX8_addsMark 72 = .ok (.iadd, 1) := by decide +kernel
theorem dX8_addsMark_73 : decode cX8_addsMark 73 = .ok (.iastore, 1) := by decide +kernel
theorem dX8_addsMark_74 : decode cX8_addsMark 74 = .ok (.return_, 1) := by decide +kernel
set_option maxRecDepth 20000 in
theorem ggX8_mark_X8_in : GoodIn wsX8_mark wsX8_in := goodIn_r _ [7] (by decide +kernel) (by decide +kernel)
set_option maxRecDepth 20000 in
theorem gX8_mark_X8_in : GoodIn wsX8_mark (va_wsS RX8 44 yX8_in wsX8_in) := goodIn_app (goodIn_of _ (by decide +kernel)) ggX8_mark_X8_in
set_option maxRecDepth 20000 in
theorem ggX8_mark_X8_addsMark : GoodIn wsX8_mark wsX8_addsMark := goodIn_r _ [11, 3, 12, 13, 14, 15, 16, 17, 18, 19, 20, 21, 22, 23, 24, 25, 26] (by decide +kernel) (by decide +kernel)
set_option maxRecDepth 20000 in
theorem gX8_mark_X8_addsMark : GoodIn wsX8_mark (wsV RX8 52 RX8 yX8_addsMark wsX8_addsMark) := goodIn_app (goodIn_of _ (by decide +kernel)) ggX8_mark_X8_addsMark
theorem dX8_mark_0 : decode cX8_mark 0 = .ok (.iload_n 1, 1) := by decide +kernel
theorem dX8_mark_1 : decode cX8_mark 1 = .ok (.i2l, 1) := by decide +kernel
theorem dX8_mark_2 : decode cX8_mark 2 = .ok (.lconst 0, 1) := by decide +kernel
theorem dX8_mark_3 : decode cX8_mark 3 = .ok (.ldc2_w 48, 3) := by decide +kernel
theorem dX8_mark_6 : decode cX8_mark 6 = .ok (.invokestatic 44, 3) := by decide +kernel
theorem dX8_mark_9 : decode cX8_mark 9 = .ok (.ifCond .eq 27, 3) := by decide +kernel
theorem dX8_mark_12 : decode cX8_mark 12 = .ok (.iload_n 2, 1) := by decide +kernel
theorem dX8_mark_13 : decode cX8_mark 13 = .ok (.i2l, 1) := by decide +kernel
theorem dX8_mark_14 : decode cX8_mark 14 = .ok (.lconst 1, 1) := by decide +kernel
theorem dX8_mark_15 : decode cX8_mark 15 = .ok (.ldc2_w 50, 3) := by decide +kernel
theorem dX8_mark_18 : decode cX8_mark 18 = .ok (.invokestatic 44, 3) := by decide +kernel
theorem dX8_mark_21 : decode cX8_mark 21 = .ok (.ifCond .eq 15, 3) := by decide +kernel
theorem dX8_mark_24 : decode cX8_mark 24 = .ok (.iload_n 3, 1) := by decide +kernel
theorem dX8_mark_25 : decode cX8_mark 25 = .ok (.i2l, 1) := by decide +kernel
theorem dX8_mark_26 : decode cX8_mark 26 = .ok (.lconst 0, 1) := by decide +kernel
theorem dX8_mark_27 : decode cX8_mark 27 = .ok (.ldc2_w 48, 3) := by decide +kernel
theorem dX8_mark_30 : decode cX8_mark 30 = .ok (.invokestatic 44, 3) := by decide +kernel
theorem dX8_mark_33 : decode cX8_mark 33 = .ok (.ifCond .ne 5, 3) := by decide +kernel
theorem dX8_mark_36 : decode cX8_mark 36 = .ok (.iconst (-1), 1) := by decide +kernel
theorem dX8_mark_37 : decode cX8_mark 37 = .ok (.ireturn, 1) := by decide +kernel
theorem dX8_mark_38 : decode cX8_mark 38 = .ok (.aload_n 0, 1) := by decide +kernel
theorem dX8_mark_39 : decode cX8_mark 39 = .ok (.getfield 7, 3) := by decide +kernel
theorem dX8_mark_42 : decode cX8_mark 42 = .ok (.iconst 0, 1) := by decide +kernel
theorem dX8_mark_43 : decode cX8_mark 43 = .ok (.iaload, 1) := by decide +kernel
theorem dX8_mark_44 : decode cX8_mark 44 = .ok (.bipush 6, 2) := by decide +kernel
theorem dX8_mark_46 : decode cX8_mark 46 = .ok (.if_icmp .ne 6, 3) := by decide +kernel
theorem dX8_mark_49 : decode cX8_mark 49 = .ok (.bipush (-3), 2) := by decide +kernel
theorem dX8_mark_51 : decode cX8_mark 51 = .ok (.ireturn, 1) := by decide +kernel
theorem dX8_mark_52 : decode cX8_mark 52 = .ok (.aload_n 0, 1) := by decide +kernel
theorem dX8_mark_53 : decode cX8_mark 53 = .ok (.iconst 0, 1) := by decide +kernel
theorem dX8_mark_54 : decode cX8_mark 54 = .ok (.iload_n 1, 1) := by decide +kernel
theorem dX8_mark_55 : decode cX8_mark 55 = .ok (.iload_n 2, 1) := by decide +kernel
theorem dX8_mark_56 : decode cX8_mark 56 = .ok (.iload_n 3, 1) := by decide +kernel
theorem dX8_mark_57 : decode cX8_mark 57 = .ok (.invokevirtual 52, 3) := by decide +kernel
theorem dX8_mark_60 : decode cX8_mark 60 = .ok (.aload_n 0, 1) := by decide +kernel
theorem dX8_mark_61 : decode cX8_mark 61 = .ok (.getfield 7, 3) := by decide +kernel
theorem dX8_mark_64 : decode cX8_mark 64 = .ok (.bipush 44, 2) := by decide +kernel
theorem dX8_mark_66 : decode cX8_mark 66 = .ok (.iconst 0, 1) := by decide +kernel
theorem dX8_mark_67 : decode cX8_mark 67 = .ok (.iastore, 1) := by decide +kernel
theorem dX8_mark_68 : decode cX8_mark 68 = .ok (.aload_n 0, 1) := by decide +kernel
theorem dX8_mark_69 : decode cX8_mark 69 = .ok (.getfield 7, 3) := by decide +kernel
theorem dX8_mark_72 : decode cX8_mark 72 = .ok (.iconst 0, 1) := by decide +kernel
theorem dX8_mark_73 : decode cX8_mark 73 = .ok (.iaload, 1) := by decide +kernel
theorem dX8_mark_74 : decode cX8_mark 74 = .ok (.iconst 1, 1) := by decide +kernel
theorem dX8_mark_75 : decode cX8_mark 75 = .ok (.isub, 1) := by decide +kernel
theorem dX8_mark_76 : decode cX8_mark 76 = .ok (.ireturn, 1) := by decide +kernel
theorem dX8_addsMonk_0 : decode cX8_addsMonk 0 = .ok (.aload_n 0, 1) := by decide +kernel
theorem dX8_addsMonk_1 : decode cX8_addsMonk 1 = .ok (.getfield 7, 3) := by decide +kernel
theorem dX8_addsMonk_4 : decode cX8_addsMonk 4 = .ok (.iload_n 1, 1) := by decide +kernel
theorem dX8_addsMonk_5 : decode cX8_addsMonk 5 = .ok (.iconst 1, 1) := by decide +kernel
theorem dX8_addsMonk_6 : decode cX8_addsMonk 6 = .ok (.iadd, 1) := by decide +kernel
theorem dX8_addsMonk_7 : decode cX8_addsMonk 7 = .ok (.iaload, 1) := by decide +kernel
theorem dX8_addsMonk_8 : decode cX8_addsMonk 8 = .ok (.istore 5, 2) := by decide +kernel
theorem dX8_addsMonk_10 : decode cX8_addsMonk 10 = .ok (.aload_n 0, 1) := by decide +kernel
theorem dX8_addsMonk_11 : decode cX8_addsMonk 11 = .ok (.getfield 7, 3) := by decide +kernel
theorem dX8_addsMonk_14 : decode cX8_addsMonk 14 = .ok (.iload_n 1, 1) := by decide +kernel
theorem dX8_addsMonk_15 : decode cX8_addsMonk 15 = .ok (.bipush 39, 2) := by decide +kernel
theorem dX8_addsMonk_17 : decode cX8_addsMonk 17 = .ok (.iadd, 1) := by decide +kernel
theorem dX8_addsMonk_18 : decode cX8_addsMonk 18 = .ok (.iload 5, 2) := by decide +kernel
theorem dX8_addsMonk_20 : decode cX8_addsMonk 20 = .ok (.iadd, 1) := by decide +kernel
theorem dX8_addsMonk_21 : decode cX8_addsMonk 21 = .ok (.iload_n 2, 1) := by decide +kernel
theorem dX8_addsMonk_22 : decode cX8_addsMonk 22 = .ok (.iastore, 1) := by decide +kernel
theorem dX8_addsMonk_23 : decode cX8_addsMonk 23 = .ok (.aload_n 0, 1) := by decide +kernel
theorem dX8_addsMonk_24 : decode cX8_addsMonk 24 = .ok (.getfield 7, 3) := by decide +kernel
theorem dX8_addsMonk_27 : decode cX8_addsMonk 27 = .ok (.iload_n 1, 1) := by decide +kernel
theorem dX8_addsMonk_28 : decode cX8_addsMonk 28 = .ok (.bipush 23, 2) := by decide +kernel
theorem dX8_addsMonk_30 : decode cX8_addsMonk 30 = .ok (.iadd, 1) := by decide +kernel
theorem dX8_addsMonk_31 : decode cX8_addsMonk 31 = .ok (.iload 5, 2) := by decide +kernel
theorem dX8_addsMonk_33 : decode cX8_addsMonk 33 = .ok (.iadd, 1) := by decide +kernel
theorem dX8_addsMonk_34 : decode cX8_addsMonk 34 = .ok (.iload_n 3, 1) := by decide +kernel
theorem dX8_addsMonk_35 : decode cX8_addsMonk 35 = .ok (.iastore, 1) := by decide +kernel
theorem dX8_addsMonk_36 : decode cX8_addsMonk 36 = .ok (.aload_n 0, 1) := by decide +kernel
theorem dX8_addsMonk_37 : decode cX8_addsMonk 37 = .ok (.getfield 7, 3) := by decide +kernel
theorem dX8_addsMonk_40 : decode cX8_addsMonk 40 = .ok (.iload_n 1, 1) := by decide +kernel
theorem dX8_addsMonk_41 : decode cX8_addsMonk 41 = .ok (.bipush 28, 2) := by decide +kernel
theorem dX8_addsMonk_43 : decode cX8_addsMonk 43 = .ok (.iadd, 1) := by decide +kernel
theorem dX8_addsMonk_44 : decode cX8_addsMonk 44 = .ok (.iload 5, 2) := by decide +kernel
theorem dX8_addsMonk_46 : decode cX8_addsMonk 46 = .ok (.iadd, 1) := by decide +kernel
theorem dX8_addsMonk_47 : decode cX8_addsMonk 47 = .ok (.iload 4, 2) := by decide +kernel
theorem dX8_addsMonk_49 : decode cX8_addsMonk 49 = .ok (.iastore, 1) := by decide +kernel
theorem dX8_addsMonk_50 : decode cX8_addsMonk 50 = .ok (.aload_n 0, 1) := by decide +kernel
theorem dX8_addsMonk_51 : decode cX8_addsMonk 51 = .ok (.getfield 7, 3) := by decide +kernel
theorem dX8_addsMonk_54 : decode cX8_addsMonk 54 = .ok (.iload_n 1, 1) := by decide +kernel
theorem dX8_addsMonk_55 : decode cX8_addsMonk 55 = .ok (.iconst 1, 1) := by decide +kernel
theorem dX8_addsMonk_56 : decode cX8_addsMonk 56 = .ok (.iadd, 1) := by decide +kernel
theorem dX8_addsMonk_57 : decode cX8_addsMonk 57 = .ok (.dup2, 1) := by decide +kernel
theorem dX8_addsMonk_58 : decode cX8_addsMonk 58 = .ok (.iaload, 1) := by decide +kernel
theorem dX8_addsMonk_59 : decode cX8_addsMonk 59 = .ok (.iconst 1, 1) := by decide +kernel
theorem dX8_addsMonk_60 : decode cX8_addsMonk 60 = .ok (.iadd, 1) := by decide +kernel
theorem dX8_addsMonk_61 : decode cX8_addsMonk 61 = .ok (.iastore, 1) := by decide +kernel
theorem dX8_addsMonk_62 : decode cX8_addsMonk 62 = .ok (.return_, 1) := by decide +kernel
set_option maxRecDepth 20000 in
theorem ggX8_monk_X8_in : GoodIn wsX8_monk wsX8_in := goodIn_r _ [7] (by decide +kernel) (by decide +kernel)
set_option maxRecDepth 20000 in
theorem gX8_monk_X8_in : GoodIn wsX8_monk (va_wsS RX8 44 yX8_in wsX8_in) := goodIn_app (goodIn_of _ (by decide +kernel)) ggX8_monk_X8_in
set_option maxRecDepth 20000 in
theorem ggX8_monk_X8_addsMonk : GoodIn wsX8_monk wsX8_addsMonk := goodIn_r _ [11, 3, 12, 13, 14, 15, 16, 17, 18, 19, 20, 21, 22, 23, 24, 25, 26] (by decide +kernel) (by decide +kernel)
set_option maxRecDepth 20000 in
theorem gX8_monk_X8_addsMonk : GoodIn wsX8_monk (wsV RX8 60 RX8 yX8_addsMonk wsX8_addsMonk) := goodIn_app (goodIn_of _ (by decide +kernel)) ggX8_monk_X8_addsMonk
theorem dX8_monk_0 : decode cX8_monk 0 = .ok (.iload_n 1, 1) := by decide +kernel
theorem dX8_monk_1 : decode cX8_monk 1 = .ok (.i2l, 1) := by decide +kernel
theorem dX8_monk_2 : decode cX8_monk 2 = .ok (.lconst 0, 1) := by decide +kernel
theorem dX8_monk_3 : decode cX8_monk 3 = .ok (.ldc2_w 56, 3) := by decide +kernel
theorem dX8_monk_6 : decode cX8_monk 6 = .ok (.invokestatic 44, 3) := by decide +kernel
theorem dX8_monk_9 : decode cX8_monk 9 = .ok (.ifCond .eq 15, 3) := by decide +kernel
theorem dX8_monk_12 : decode cX8_monk 12 = .ok (.iload_n 2, 1) := by decide +kernel
theorem dX8_monk_13 : decode cX8_monk 13 = .ok (.i2l, 1) := by decide +kernel
theorem dX8_monk_14 : decode cX8_monk 14 = .ok (.lconst 0, 1) := by decide +kernel
theorem dX8_monk_15 : decode cX8_monk 15 = .ok (.ldc2_w 58, 3) := by decide +kernel
theorem dX8_monk_18 : decode cX8_monk 18 = .ok (.invokestatic 44, 3) := by decide +kernel
theorem dX8_monk_21 : decode cX8_monk 21 = .ok (.ifCond .ne 5, 3) := by decide +kernel
theorem dX8_monk_24 : decode cX8_monk 24 = .ok (.iconst (-1), 1) := by decide +kernel
theorem dX8_monk_25 : decode cX8_monk 25 = .ok (.ireturn, 1) := by decide +kernel
theorem dX8_monk_26 : decode cX8_monk 26 = .ok (.aload_n 0, 1) := by decide +kernel
theorem dX8_monk_27 : decode cX8_monk 27 = .ok (.getfield 7, 3) := by decide +kernel
theorem dX8_monk_30 : decode cX8_monk 30 = .ok (.iconst 1, 1) := by decide +kernel
theorem dX8_monk_31 : decode cX8_monk 31 = .ok (.iaload, 1) := by decide +kernel
theorem dX8_monk_32 : decode cX8_monk 32 = .ok (.iconst 5, 1) := by decide +kernel
theorem dX8_monk_33 : decode cX8_monk 33 = .ok (.if_icmp .ne 6, 3) := by decide +kernel
theorem dX8_monk_36 : decode cX8_monk 36 = .ok (.bipush (-3), 2) := by decide +kernel
theorem dX8_monk_38 : decode cX8_monk 38 = .ok (.ireturn, 1) := by decide +kernel
theorem dX8_monk_39 : decode cX8_monk 39 = .ok (.aload_n 0, 1) := by decide +kernel
theorem dX8_monk_40 : decode cX8_monk 40 = .ok (.iconst 0, 1) := by decide +kernel
theorem dX8_monk_41 : decode cX8_monk 41 = .ok (.iload_n 1, 1) := by decide +kernel
theorem dX8_monk_42 : decode cX8_monk 42 = .ok (.iload_n 2, 1) := by decide +kernel
theorem dX8_monk_43 : decode cX8_monk 43 = .ok (.bipush (-4), 2) := by decide +kernel
theorem dX8_monk_45 : decode cX8_monk 45 = .ok (.invokevirtual 60, 3) := by decide +kernel
theorem dX8_monk_48 : decode cX8_monk 48 = .ok (.aload_n 0, 1) := by decide +kernel
theorem dX8_monk_49 : decode cX8_monk 49 = .ok (.getfield 7, 3) := by decide +kernel
theorem dX8_monk_52 : decode cX8_monk 52 = .ok (.bipush 44, 2) := by decide +kernel
theorem dX8_monk_54 : decode cX8_monk 54 = .ok (.iconst 0, 1) := by decide +kernel
theorem dX8_monk_55 : decode cX8_monk 55 = .ok (.iastore, 1) := by decide +kernel
theorem dX8_monk_56 : decode cX8_monk 56 = .ok (.aload_n 0, 1) := by decide +kernel
theorem dX8_monk_57 : decode cX8_monk 57 = .ok (.getfield 7, 3) := by decide +kernel
theorem dX8_monk_60 : decode cX8_monk 60 = .ok (.iconst 1, 1) := by decide +kernel
theorem dX8_monk_61 : decode cX8_monk 61 = .ok (.iaload, 1) := by decide +kernel
theorem dX8_monk_62 : decode cX8_monk 62 = .ok (.iconst 1, 1) := by decide +kernel
theorem dX8_monk_63 : decode cX8_monk 63 = .ok (.isub, 1) := by decide +kernel
theorem dX8_monk_64 : decode cX8_monk 64 = .ok (.ireturn, 1) := by decide +kernel
theorem dX8_isGone_0 : decode cX8_isGone 0 = .ok (.aload_n 0, 1) := by decide +kernel
theorem dX8_isGone_1 : decode cX8_isGone 1 = .ok (.getfield 7, 3) := by decide +kernel
theorem dX8_isGone_4 : decode cX8_isGone 4 = .ok (.iload_n 1, 1) := by decide +kernel
theorem dX8_isGone_5 : decode cX8_isGone 5 = .ok (.iconst 5, 1) := by decide +kernel
theorem dX8_isGone_6 : decode cX8_isGone 6 = .ok (.iadd, 1) := by decide +kernel
theorem dX8_isGone_7 : decode cX8_isGone 7 = .ok (.iload_n 2, 1) := by decide +kernel
theorem dX8_isGone_8 : decode cX8_isGone 8 = .ok (.iadd, 1) := by decide +kernel
theorem dX8_isGone_9 : decode cX8_isGone 9 = .ok (.iaload, 1) := by decide +kernel
theorem dX8_isGone_10 : decode cX8_isGone 10 = .ok (.ifCond .ne 21, 3) := by decide +kernel
theorem dX8_isGone_13 : decode cX8_isGone 13 = .ok (.aload_n 0, 1) := by decide +kernel
theorem dX8_isGone_14 : decode cX8_isGone 14 = .ok (.getfield 7, 3) := by decide +kernel
theorem dX8_isGone_17 : decode cX8_isGone 17 = .ok (.iload_n 1, 1) := by decide +kernel
theorem dX8_isGone_18 : decode cX8_isGone 18 = .ok (.bipush 11, 2) := by decide +kernel
theorem dX8_isGone_20 : decode cX8_isGone 20 = .ok (.iadd, 1) := by decide +kernel
theorem dX8_isGone_21 : decode cX8_isGone 21 = .ok (.iload_n 2, 1) := by decide +kernel
theorem dX8_isGone_22 : decode cX8_isGone 22 = .ok (.iadd, 1) := by decide +kernel
theorem dX8_isGone_23 : decode cX8_isGone 23 = .ok (.iaload, 1) := by decide +kernel
theorem dX8_isGone_24 : decode cX8_isGone 24 = .ok (.ifCond .ne 7, 3) := by decide +kernel
theorem dX8_isGone_27 : decode cX8_isGone 27 = .ok (.iconst 1, 1) := by decide +kernel
theorem dX8_isGone_28 : decode cX8_isGone 28 = .ok (.goto 4, 3) := by decide +kernel
theorem dX8_isGone_31 : decode cX8_isGone 31 = .ok (.iconst 0, 1) := by decide +kernel
theorem dX8_isGone_32 : decode cX8_isGone 32 = .ok (.ireturn, 1) := by decide +kernel
theorem dX8_isTorn_0 : decode cX8_isTorn 0 = .ok (.aload_n 0, 1) := by decide +kernel
theorem dX8_isTorn_1 : decode cX8_isTorn 1 = .ok (.getfield 7, 3) := by decide +kernel
theorem dX8_isTorn_4 : decode cX8_isTorn 4 = .ok (.iload_n 1, 1) := by decide +kernel
theorem dX8_isTorn_5 : decode cX8_isTorn 5 = .ok (.bipush 17, 2) := by decide +kernel
theorem dX8_isTorn_7 : decode cX8_isTorn 7 = .ok (.iadd, 1) := by decide +kernel
theorem dX8_isTorn_8 : decode cX8_isTorn 8 = .ok (.iload_n 2, 1) := by decide +kernel
theorem dX8_isTorn_9 : decode cX8_isTorn 9 = .ok (.iadd, 1) := by decide +kernel
theorem dX8_isTorn_10 : decode cX8_isTorn 10 = .ok (.iaload, 1) := by decide +kernel
theorem dX8_isTorn_11 : decode cX8_isTorn 11 = .ok (.bipush 20, 2) := by decide +kernel
theorem dX8_isTorn_13 : decode cX8_isTorn 13 = .ok (.if_icmp .ne 7, 3) := by decide +kernel
theorem dX8_isTorn_16 : decode cX8_isTorn 16 = .ok (.iconst 1, 1) := by decide +kernel
theorem dX8_isTorn_17 : decode cX8_isTorn 17 = .ok (.goto 4, 3) := by decide +kernel
theorem dX8_isTorn_20 : decode cX8_isTorn 20 = .ok (.iconst 0, 1) := by decide +kernel
theorem dX8_isTorn_21 : decode cX8_isTorn 21 = .ok (.ireturn, 1) := by decide +kernel
theorem dX8_sentTo_0 : decode cX8_sentTo 0 = .ok (.iconst 0, 1) := by decide +kernel
theorem dX8_sentTo_1 : decode cX8_sentTo 1 = .ok (.istore_n 2, 1) := by decide +kernel
theorem dX8_sentTo_2 : decode cX8_sentTo 2 = .ok (.iconst 0, 1) := by decide +kernel
theorem dX8_sentTo_3 : decode cX8_sentTo 3 = .ok (.istore_n 3, 1) := by decide +kernel
theorem dX8_sentTo_4 : decode cX8_sentTo 4 = .ok (.iload_n 3, 1) := by decide +kernel
theorem dX8_sentTo_5 : decode cX8_sentTo 5 = .ok (.aload_n 0, 1) := by decide +kernel
theorem dX8_sentTo_6 : decode cX8_sentTo 6 = .ok (.getfield 7, 3) := by decide +kernel
theorem dX8_sentTo_9 : decode cX8_sentTo 9 = .ok (.iconst 1, 1) := by decide +kernel
theorem dX8_sentTo_10 : decode cX8_sentTo 10 = .ok (.iaload, 1) := by decide +kernel
theorem dX8_sentTo_11 : decode cX8_sentTo 11 = .ok (.if_icmp .ge 32, 3) := by decide +kernel
theorem dX8_sentTo_14 : decode cX8_sentTo 14 = .ok (.iload_n 2, 1) := by decide +kernel
theorem dX8_sentTo_15 : decode cX8_sentTo 15 = .ok (.aload_n 0, 1) := by decide +kernel
theorem dX8_sentTo_16 : decode cX8_sentTo 16 = .ok (.getfield 7, 3) := by decide +kernel
theorem dX8_sentTo_19 : decode cX8_sentTo 19 = .ok (.bipush 28, 2) := by decide +kernel
theorem dX8_sentTo_21 : decode cX8_sentTo 21 = .ok (.iload_n 3, 1) := by decide +kernel
theorem dX8_sentTo_22 : decode cX8_sentTo 22 = .ok (.iadd, 1) := by decide +kernel
theorem dX8_sentTo_23 : decode cX8_sentTo 23 = .ok (.iaload, 1) := by decide +kernel
theorem dX8_sentTo_24 : decode cX8_sentTo 24 = .ok (.iload_n 1, 1) := by decide +kernel
theorem dX8_sentTo_25 : decode cX8_sentTo 25 = .ok (.if_icmp .ne 9, 3) := by decide +kernel
theorem dX8_sentTo_28 : decode cX8_sentTo 28 = .ok (.iconst 1, 1) := by decide +kernel
theorem dX8_sentTo_29 : decode cX8_sentTo 29 = .ok (.iload_n 3, 1) := by decide +kernel
theorem dX8_sentTo_30 : decode cX8_sentTo 30 = .ok (.ishl, 1) := by decide +kernel
theorem dX8_sentTo_31 : decode cX8_sentTo 31 = .ok (.goto 4, 3) := by decide +kernel
theorem dX8_sentTo_34 : decode cX8_sentTo 34 = .ok (.iconst 0, 1) := by decide +kernel
theorem dX8_sentTo_35 : decode cX8_sentTo 35 = .ok (.ior, 1) := by decide +kernel
theorem dX8_sentTo_36 : decode cX8_sentTo 36 = .ok (.istore_n 2, 1) := by decide +kernel
theorem dX8_sentTo_37 : decode cX8_sentTo 37 = .ok (.iinc 3 1, 3) := by decide +kernel
theorem dX8_sentTo_40 : decode cX8_sentTo 40 = .ok (.goto (-36), 3) := by decide +kernel
theorem dX8_sentTo_43 : decode cX8_sentTo 43 = .ok (.iload_n 2, 1) := by decide +kernel
theorem dX8_sentTo_44 : decode cX8_sentTo 44 = .ok (.ireturn, 1) := by decide +kernel
set_option maxRecDepth 20000 in
theorem ggX8_of_X8_isMark : GoodIn wsX8_of wsX8_isMark := goodIn_r _ [6, 1, 7, 8, 5, 9, 22, 23, 24, 25, 26, 27, 28, 29, 30, 31, 32, 33, 34, 35, 36] (by decide +kernel) (by decide +kernel)
set_option maxRecDepth 20000 in
theorem gX8_of_X8_isMark : GoodIn wsX8_of (wsV RX8 63 RX8 yX8_isMark wsX8_isMark) := goodIn_app (goodIn_of _ (by decide +kernel)) ggX8_of_X8_isMark
set_option maxRecDepth 20000 in
theorem ggX8_of_X8_isGone : GoodIn wsX8_of wsX8_isGone := goodIn_r _ [13, 1, 22, 23, 24, 25, 26, 27, 28, 29, 30, 31, 32, 33, 34, 35, 36] (by decide +kernel) (by decide +kernel)
set_option maxRecDepth 20000 in
theorem gX8_of_X8_isGone : GoodIn wsX8_of (wsV RX8 67 RX8 yX8_isGone wsX8_isGone) := goodIn_app (goodIn_of _ (by decide +kernel)) ggX8_of_X8_isGone
set_option maxRecDepth 20000 in
theorem ggX8_of_X8_isTorn : GoodIn wsX8_of wsX8_isTorn := goodIn_r _ [17, 1, 22, 23, 24, 25, 26, 27, 28, 29, 30, 31, 32, 33, 34, 35, 36] (by decide +kernel) (by decide +kernel)
set_option maxRecDepth 20000 in
theorem gX8_of_X8_isTorn : GoodIn wsX8_of (wsV RX8 71 RX8 yX8_isTorn wsX8_isTorn) := goodIn_app (goodIn_of _ (by decide +kernel)) ggX8_of_X8_isTorn
set_option maxRecDepth 20000 in
theorem ggX8_of_X8_sentTo : GoodIn wsX8_of wsX8_sentTo := goodIn_r _ [21, 1, 22, 23, 24, 25, 26, 27, 28, 29, 30, 31, 32, 33, 34, 35, 36] (by decide +kernel) (by decide +kernel)
set_option maxRecDepth 20000 in
theorem gX8_of_X8_sentTo : GoodIn wsX8_of (wsV RX8 74 RX8 yX8_sentTo wsX8_sentTo) := goodIn_app (goodIn_of _ (by decide +kernel)) ggX8_of_X8_sentTo
theorem dX8_of_0 : decode cX8_of 0 = .ok (.aload_n 0, 1) := by decide +kernel
theorem dX8_of_1 : decode cX8_of 1 = .ok (.iload_n 1, 1) := by decide +kernel
theorem dX8_of_2 : decode cX8_of 2 = .ok (.invokevirtual 63, 3) := by decide +kernel
theorem dX8_of_5 : decode cX8_of 5 = .ok (.ifCond .ne 5, 3) := by decide +kernel
theorem dX8_of_8 : decode cX8_of 8 = .ok (.iconst (-1), 1) := by decide +kernel
theorem dX8_of_9 : decode cX8_of 9 = .ok (.ireturn, 1) := by decide +kernel
theorem dX8_of_10 : decode cX8_of 10 = .ok (.iload_n 2, 1) := by decide +kernel
theorem dX8_of_11 : decode cX8_of 11 = .ok (.tableswitch 116 0 6 #[41, 50, 60, 70, 80, 95, 110], 41) := by decide +kernel
theorem dX8_of_52 : decode cX8_of 52 = .ok (.aload_n 0, 1) := by decide +kernel
theorem dX8_of_53 : decode cX8_of 53 = .ok (.getfield 7, 3) := by decide +kernel
theorem dX8_of_56 : decode cX8_of 56 = .ok (.iconst 5, 1) := by decide +kernel
theorem dX8_of_57 : decode cX8_of 57 = .ok (.iload_n 1, 1) := by decide +kernel
theorem dX8_of_58 : decode cX8_of 58 = .ok (.iadd, 1) := by decide +kernel
theorem dX8_of_59 : decode cX8_of 59 = .ok (.iaload, 1) := by decide +kernel
theorem dX8_of_60 : decode cX8_of 60 = .ok (.ireturn, 1) := by decide +kernel
theorem dX8_of_61 : decode cX8_of 61 = .ok (.aload_n 0, 1) := by decide +kernel
theorem dX8_of_62 : decode cX8_of 62 = .ok (.getfield 7, 3) := by decide +kernel
theorem dX8_of_65 : decode cX8_of 65 = .ok (.bipush 33, 2) := by decide +kernel
theorem dX8_of_67 : decode cX8_of 67 = .ok (.iload_n 1, 1) := by decide +kernel
theorem dX8_of_68 : decode cX8_of 68 = .ok (.iadd, 1) := by decide +kernel
theorem dX8_of_69 : decode cX8_of 69 = .ok (.iaload, 1) := by decide +kernel
theorem dX8_of_70 : decode cX8_of 70 = .ok (.ireturn, 1) := by decide +kernel
theorem dX8_of_71 : decode cX8_of 71 = .ok (.aload_n 0, 1) := by decide +kernel
theorem dX8_of_72 : decode cX8_of 72 = .ok (.getfield 7, 3) := by decide +kernel
theorem dX8_of_75 : decode cX8_of 75 = .ok (.bipush 11, 2) := by decide +kernel
theorem dX8_of_77 : decode cX8_of 77 = .ok (.iload_n 1, 1) := by decide +kernel
theorem dX8_of_78 : decode cX8_of 78 = .ok (.iadd, 1) := by decide +kernel
theorem dX8_of_79 : decode cX8_of 79 = .ok (.iaload, 1) := by decide +kernel
theorem dX8_of_80 : decode cX8_of 80 = .ok (.ireturn, 1) := by decide +kernel
theorem dX8_of_81 : decode cX8_of 81 = .ok (.aload_n 0, 1) := by decide +kernel
theorem dX8_of_82 : decode cX8_of 82 = .ok (.getfield 7, 3) := by decide +kernel
theorem dX8_of_85 : decode cX8_of 85 = .ok (.bipush 17, 2) := by decide +kernel
theorem dX8_of_87 : decode cX8_of 87 = .ok (.iload_n 1, 1) := by decide +kernel
theorem dX8_of_88 : decode cX8_of 88 = .ok (.iadd, 1) := by decide +kernel
theorem dX8_of_89 : decode cX8_of 89 = .ok (.iaload, 1) := by decide +kernel
theorem dX8_of_90 : decode cX8_of 90 = .ok (.ireturn, 1) := by decide +kernel
theorem dX8_of_91 : decode cX8_of 91 = .ok (.aload_n 0, 1) := by decide +kernel
theorem dX8_of_92 : decode cX8_of 92 = .ok (.iconst 0, 1) := by decide +kernel
theorem dX8_of_93 : decode cX8_of 93 = .ok (.iload_n 1, 1) := by decide +kernel
theorem dX8_of_94 : decode cX8_of 94 = .ok (.invokevirtual 67, 3) := by decide +kernel
theorem dX8_of_97 : decode cX8_of 97 = .ok (.ifCond .eq 7, 3) := by decide +kernel
theorem dX8_of_100 : decode cX8_of 100 = .ok (.iconst 1, 1) := by decide +kernel
theorem dX8_of_101 : decode cX8_of 101 = .ok (.goto 4, 3) := by decide +kernel
theorem dX8_of_104 : decode cX8_of 104 = .ok (.iconst 0, 1) := by decide +kernel
theorem dX8_of_105 : decode cX8_of 105 = .ok (.ireturn, 1) := by decide +kernel
theorem dX8_of_106 : decode cX8_of 106 = .ok (.aload_n 0, 1) := by decide +kernel
theorem dX8_of_107 : decode cX8_of 107 = .ok (.iconst 0, 1) := by decide +kernel
theorem dX8_of_108 : decode cX8_of 108 = .ok (.iload_n 1, 1) := by decide +kernel
theorem dX8_of_109 : decode cX8_of 109 = .ok (.invokevirtual 71, 3) := by decide +kernel
theorem dX8_of_112 : decode cX8_of 112 = .ok (.ifCond .eq 7, 3) := by decide +kernel
theorem dX8_of_115 : decode cX8_of 115 = .ok (.iconst 1, 1) := by decide +kernel
theorem dX8_of_116 : decode cX8_of 116 = .ok (.goto 4, 3) := by decide +kernel
theorem dX8_of_119 : decode cX8_of 119 = .ok (.iconst 0, 1) := by decide +kernel
theorem dX8_of_120 : decode cX8_of 120 = .ok (.ireturn, 1) := by decide +kernel
theorem dX8_of_121 : decode cX8_of 121 = .ok (.aload_n 0, 1) := by decide +kernel
theorem dX8_of_122 : decode cX8_of 122 = .ok (.iload_n 1, 1) := by decide +kernel
theorem dX8_of_123 : decode cX8_of 123 = .ok (.invokevirtual 74, 3) := by decide +kernel
theorem dX8_of_126 : decode cX8_of 126 = .ok (.ireturn, 1) := by decide +kernel
theorem dX8_of_127 : decode cX8_of 127 = .ok (.iconst (-1), 1) := by decide +kernel
theorem dX8_of_128 : decode cX8_of 128 = .ok (.ireturn, 1) := by decide +kernel
set_option maxRecDepth 20000 in
theorem ggX8_at_X8_isMonk : GoodIn wsX8_at wsX8_isMonk := goodIn_r _ [6, 1, 7, 8, 5, 9, 10, 11, 12, 13, 14, 15, 16, 17, 18, 19, 20, 21, 22, 23, 24] (by decide +kernel) (by decide +kernel)
set_option maxRecDepth 20000 in
theorem gX8_at_X8_isMonk : GoodIn wsX8_at (wsV RX8 78 RX8 yX8_isMonk wsX8_isMonk) := goodIn_app (goodIn_of _ (by decide +kernel)) ggX8_at_X8_isMonk
theorem dX8_at_0 : decode cX8_at 0 = .ok (.aload_n 0, 1) := by decide +kernel
theorem dX8_at_1 : decode cX8_at 1 = .ok (.iload_n 1, 1) := by decide +kernel
theorem dX8_at_2 : decode cX8_at 2 = .ok (.invokevirtual 78, 3) := by decide +kernel
theorem dX8_at_5 : decode cX8_at 5 = .ok (.ifCond .ne 5, 3) := by decide +kernel
theorem dX8_at_8 : decode cX8_at 8 = .ok (.iconst (-1), 1) := by decide +kernel
theorem dX8_at_9 : decode cX8_at 9 = .ok (.ireturn, 1) := by decide +kernel
theorem dX8_at_10 : decode cX8_at 10 = .ok (.iload_n 2, 1) := by decide +kernel
theorem dX8_at_11 : decode cX8_at 11 = .ok (.ifCond .ne 15, 3) := by decide +kernel
theorem dX8_at_14 : decode cX8_at 14 = .ok (.aload_n 0, 1) := by decide +kernel
theorem dX8_at_15 : decode cX8_at 15 = .ok (.getfield 7, 3) := by decide +kernel
theorem dX8_at_18 : decode cX8_at 18 = .ok (.bipush 39, 2) := by decide +kernel
theorem dX8_at_20 : decode cX8_at 20 = .ok (.iload_n 1, 1) := by decide +kernel
theorem dX8_at_21 : decode cX8_at 21 = .ok (.iadd, 1) := by decide +kernel
theorem dX8_at_22 : decode cX8_at 22 = .ok (.iaload, 1) := by decide +kernel
theorem dX8_at_23 : decode cX8_at 23 = .ok (.goto 38, 3) := by decide +kernel
theorem dX8_at_26 : decode cX8_at 26 = .ok (.iload_n 2, 1) := by decide +kernel
theorem dX8_at_27 : decode cX8_at 27 = .ok (.iconst 1, 1) := by decide +kernel
theorem dX8_at_28 : decode cX8_at 28 = .ok (.if_icmp .ne 15, 3) := by decide +kernel
theorem dX8_at_31 : decode cX8_at 31 = .ok (.aload_n 0, 1) := by decide +kernel
theorem dX8_at_32 : decode cX8_at 32 = .ok (.getfield 7, 3) := by decide +kernel
theorem dX8_at_35 : decode cX8_at 35 = .ok (.bipush 23, 2) := by decide +kernel
theorem dX8_at_37 : decode cX8_at 37 = .ok (.iload_n 1, 1) := by decide +kernel
theorem dX8_at_38 : decode cX8_at 38 = .ok (.iadd, 1) := by decide +kernel
theorem dX8_at_39 : decode cX8_at 39 = .ok (.iaload, 1) := by decide +kernel
theorem dX8_at_40 : decode cX8_at 40 = .ok (.goto 21, 3) := by decide +kernel
theorem dX8_at_43 : decode cX8_at 43 = .ok (.iload_n 2, 1) := by decide +kernel
theorem dX8_at_44 : decode cX8_at 44 = .ok (.iconst 2, 1) := by decide +kernel
theorem dX8_at_45 : decode cX8_at 45 = .ok (.if_icmp .ne 15, 3) := by decide +kernel
theorem dX8_at_48 : decode cX8_at 48 = .ok (.aload_n 0, 1) := by decide +kernel
theorem dX8_at_49 : decode cX8_at 49 = .ok (.getfield 7, 3) := by decide +kernel
theorem dX8_at_52 : decode cX8_at 52 = .ok (.bipush 28, 2) := by decide +kernel
theorem dX8_at_54 : decode cX8_at 54 = .ok (.iload_n 1, 1) := by decide +kernel
theorem dX8_at_55 : decode cX8_at 55 = .ok (.iadd, 1) := by decide +kernel
theorem dX8_at_56 : decode cX8_at 56 = .ok (.iaload, 1) := by decide +kernel
theorem dX8_at_57 : decode cX8_at 57 = .ok (.goto 4, 3) := by decide +kernel
theorem dX8_at_60 : decode cX8_at 60 = .ok (.iconst (-1), 1) := by decide +kernel
theorem dX8_at_61 : decode cX8_at 61 = .ok (.ireturn, 1) := by decide +kernel
set_option maxRecDepth 20000 in
theorem ggX8_type_X8_in : GoodIn wsX8_type wsX8_in := goodIn_r _ [8] (by decide +kernel) (by decide +kernel)
set_option maxRecDepth 20000 in
theorem gX8_type_X8_in : GoodIn wsX8_type (va_wsS RX8 44 yX8_in wsX8_in) := goodIn_app (goodIn_of _ (by decide +kernel)) ggX8_type_X8_in
theorem dX8_type_0 : decode cX8_type 0 = .ok (.iload_n 1, 1) := by decide +kernel
theorem dX8_type_1 : decode cX8_type 1 = .ok (.i2l, 1) := by decide +kernel
theorem dX8_type_2 : decode cX8_type 2 = .ok (.ldc2_w 81, 3) := by decide +kernel
theorem dX8_type_5 : decode cX8_type 5 = .ok (.ldc2_w 83, 3) := by decide +kernel
theorem dX8_type_8 : decode cX8_type 8 = .ok (.invokestatic 44, 3) := by decide +kernel
theorem dX8_type_11 : decode cX8_type 11 = .ok (.ifCond .ne 5, 3) := by decide +kernel
theorem dX8_type_14 : decode cX8_type 14 = .ok (.iconst (-1), 1) := by decide +kernel
theorem dX8_type_15 : decode cX8_type 15 = .ok (.ireturn, 1) := by decide +kernel
theorem dX8_type_16 : decode cX8_type 16 = .ok (.aload_n 0, 1) := by decide +kernel
theorem dX8_type_17 : decode cX8_type 17 = .ok (.getfield 85, 3) := by decide +kernel
theorem dX8_type_20 : decode cX8_type 20 = .ok (.bipush 90, 2) := by decide +kernel
theorem dX8_type_22 : decode cX8_type 22 = .ok (.if_icmp .ne 6, 3) := by decide +kernel
theorem dX8_type_25 : decode cX8_type 25 = .ok (.bipush (-3), 2) := by decide +kernel
theorem dX8_type_27 : decode cX8_type 27 = .ok (.ireturn, 1) := by decide +kernel
theorem dX8_type_28 : decode cX8_type 28 = .ok (.aload_n 0, 1) := by decide +kernel
theorem dX8_type_29 : decode cX8_type 29 = .ok (.getfield 13, 3) := by decide +kernel
theorem dX8_type_32 : decode cX8_type 32 = .ok (.aload_n 0, 1) := by decide +kernel
theorem dX8_type_33 : decode cX8_type 33 = .ok (.getfield 85, 3) := by decide +kernel
theorem dX8_type_36 : decode cX8_type 36 = .ok (.iload_n 1, 1) := by decide +kernel
theorem dX8_type_37 : decode cX8_type 37 = .ok (.iastore, 1) := by decide +kernel
theorem dX8_type_38 : decode cX8_type 38 = .ok (.aload_n 0, 1) := by decide +kernel
theorem dX8_type_39 : decode cX8_type 39 = .ok (.dup, 1) := by decide +kernel
theorem dX8_type_40 : decode cX8_type 40 = .ok (.getfield 85, 3) := by decide +kernel
theorem dX8_type_43 : decode cX8_type 43 = .ok (.iconst 1, 1) := by decide +kernel
theorem dX8_type_44 : decode cX8_type 44 = .ok (.iadd, 1) := by decide +kernel
theorem dX8_type_45 : decode cX8_type 45 = .ok (.putfield 85, 3) := by decide +kernel
theorem dX8_type_48 : decode cX8_type 48 = .ok (.aload_n 0, 1) := by decide +kernel
theorem dX8_type_49 : decode cX8_type 49 = .ok (.getfield 85, 3) := by decide +kernel
theorem dX8_type_52 : decode cX8_type 52 = .ok (.ireturn, 1) := by decide +kernel
theorem dX8_peek_0 : decode cX8_peek 0 = .ok (.aload_n 0, 1) := by decide +kernel
theorem dX8_peek_1 : decode cX8_peek 1 = .ok (.getfield 89, 3) := by decide +kernel
theorem dX8_peek_4 : decode cX8_peek 4 = .ok (.aload_n 0, 1) := by decide +kernel
theorem dX8_peek_5 : decode cX8_peek 5 = .ok (.getfield 85, 3) := by decide +kernel
theorem dX8_peek_8 : decode cX8_peek 8 = .ok (.if_icmp .ge 30, 3) := by decide +kernel
theorem dX8_peek_11 : decode cX8_peek 11 = .ok (.aload_n 0, 1) := by decide +kernel
theorem dX8_peek_12 : decode cX8_peek 12 = .ok (.getfield 13, 3) := by decide +kernel
theorem dX8_peek_15 : decode cX8_peek 15 = .ok (.aload_n 0, 1) := by decide +kernel
theorem dX8_peek_16 : decode cX8_peek 16 = .ok (.getfield 89, 3) := by decide +kernel
theorem dX8_peek_19 : decode cX8_peek 19 = .ok (.iaload, 1) := by decide +kernel
theorem dX8_peek_20 : decode cX8_peek 20 = .ok (.bipush 32, 2) := by decide +kernel
theorem dX8_peek_22 : decode cX8_peek 22 = .ok (.if_icmp .ne 16, 3) := by decide +kernel
theorem dX8_peek_25 : decode cX8_peek 25 = .ok (.aload_n 0, 1) := by decide +kernel
theorem dX8_peek_26 : decode cX8_peek 26 = .ok (.dup, 1) := by decide +kernel
theorem dX8_peek_27 : decode cX8_peek 27 = .ok (.getfield 89, 3) := by decide +kernel
theorem dX8_peek_30 : decode cX8_peek 30 = .ok (.iconst 1, 1) := by decide +kernel
theorem dX8_peek_31 : decode cX8_peek 31 = .ok (.iadd, 1) := by decide +kernel
theorem dX8_peek_32 : decode cX8_peek 32 = .ok (.putfield 89, 3) := by decide +kernel
theorem dX8_peek_35 : decode cX8_peek 35 = .ok (.goto (-35), 3) := by decide +kernel
theorem dX8_peek_38 : decode cX8_peek 38 = .ok (.aload_n 0, 1) := by decide +kernel
theorem dX8_peek_39 : decode cX8_peek 39 = .ok (.getfield 89, 3) := by decide +kernel
theorem dX8_peek_42 : decode cX8_peek 42 = .ok (.aload_n 0, 1) := by decide +kernel
theorem dX8_peek_43 : decode cX8_peek 43 = .ok (.getfield 85, 3) := by decide +kernel
theorem dX8_peek_46 : decode cX8_peek 46 = .ok (.if_icmp .ge 15, 3) := by decide +kernel
theorem dX8_peek_49 : decode cX8_peek 49 = .ok (.aload_n 0, 1) := by decide +kernel
theorem dX8_peek_50 : decode cX8_peek 50 = .ok (.getfield 13, 3) := by decide +kernel
theorem dX8_peek_53 : decode cX8_peek 53 = .ok (.aload_n 0, 1) := by decide +kernel
theorem dX8_peek_54 : decode cX8_peek 54 = .ok (.getfield 89, 3) := by decide +kernel
theorem dX8_peek_57 : decode cX8_peek 57 = .ok (.iaload, 1) := by decide +kernel
theorem dX8_peek_58 : decode cX8_peek 58 = .ok (.goto 4, 3) := by decide +kernel
theorem dX8_peek_61 : decode cX8_peek 61 = .ok (.iconst 0, 1) := by decide +kernel
theorem dX8_peek_62 : decode cX8_peek 62 = .ok (.ireturn, 1) := by decide +kernel
set_option maxRecDepth 20000 in
theorem ggX8_takes_X8_peek : GoodIn wsX8_takes wsX8_peek := goodIn_r _ [6, 1, 7, 8, 9, 10, 11, 12, 13, 14, 15, 16, 17, 18, 19, 20, 21, 22, 23] (by decide +kernel) (by decide +kernel)
set_option maxRecDepth 20000 in
theorem gX8_takes_X8_peek : GoodIn wsX8_takes (wsV RX8 92 RX8 yX8_peek wsX8_peek) := goodIn_app (goodIn_of _ (by decide +kernel)) ggX8_takes_X8_peek
theorem dX8_takes_0 : decode cX8_takes 0 = .ok (.aload_n 0, 1) := by decide +kernel
theorem dX8_takes_1 : decode cX8_takes 1 = .ok (.invokevirtual 92, 3) := by decide +kernel
theorem dX8_takes_4 : decode cX8_takes 4 = .ok (.iload_n 1, 1) := by decide +kernel
theorem dX8_takes_5 : decode cX8_takes 5 = .ok (.if_icmp .eq 5, 3) := by decide +kernel
theorem dX8_takes_8 : decode cX8_takes 8 = .ok (.iconst 0, 1) := by decide +kernel
theorem dX8_takes_9 : decode cX8_takes 9 = .ok (.ireturn, 1) := by decide +kernel
theorem dX8_takes_10 : decode cX8_takes 10 = .ok (.aload_n 0, 1) := by decide +kernel
theorem dX8_takes_11 : decode cX8_takes 11 = .ok (.dup, 1) := by decide +kernel
theorem dX8_takes_12 : decode cX8_takes 12 = .ok (.getfield 89, 3) := by decide +kernel
theorem dX8_takes_15 : decode cX8_takes 15 = .ok (.iconst 1, 1) := by decide +kernel
theorem dX8_takes_16 : decode cX8_takes 16 = .ok (.iadd, 1) := by decide +kernel
theorem dX8_takes_17 : decode cX8_takes 17 = .ok (.putfield 89, 3) := by decide +kernel
theorem dX8_takes_20 : decode cX8_takes 20 = .ok (.iconst 1, 1) := by decide +kernel
theorem dX8_takes_21 : decode cX8_takes 21 = .ok (.ireturn, 1) := by decide +kernel
set_option maxRecDepth 20000 in
theorem ggX8_isFigure_X8_in : GoodIn wsX8_isFigure wsX8_in := goodIn_r _ [8] (by decide +kernel) (by decide +kernel)
set_option maxRecDepth 20000 in
theorem gX8_isFigure_X8_in : GoodIn wsX8_isFigure (va_wsS RX8 44 yX8_in wsX8_in) := goodIn_app (goodIn_of _ (by decide +kernel)) ggX8_isFigure_X8_in
theorem dX8_isFigure_0 : decode cX8_isFigure 0 = .ok (.iload_n 1, 1) := by decide +kernel
theorem dX8_isFigure_1 : decode cX8_isFigure 1 = .ok (.aload_n 0, 1) := by decide +kernel
theorem dX8_isFigure_2 : decode cX8_isFigure 2 = .ok (.getfield 85, 3) := by decide +kernel
theorem dX8_isFigure_5 : decode cX8_isFigure 5 = .ok (.if_icmp .ge 26, 3) := by decide +kernel
theorem dX8_isFigure_8 : decode cX8_isFigure 8 = .ok (.aload_n 0, 1) := by decide +kernel
theorem dX8_isFigure_9 : decode cX8_isFigure 9 = .ok (.getfield 13, 3) := by decide +kernel
theorem dX8_isFigure_12 : decode cX8_isFigure 12 = .ok (.iload_n 1, 1) := by decide +kernel
theorem dX8_isFigure_13 : decode cX8_isFigure 13 = .ok (.iaload, 1) := by decide +kernel
theorem dX8_isFigure_14 : decode cX8_isFigure 14 = .ok (.i2l, 1) := by decide +kernel
theorem dX8_isFigure_15 : decode cX8_isFigure 15 = .ok (.ldc2_w 96, 3) := by decide +kernel
theorem dX8_isFigure_18 : decode cX8_isFigure 18 = .ok (.ldc2_w 98, 3) := by decide +kernel
theorem dX8_isFigure_21 : decode cX8_isFigure 21 = .ok (.invokestatic 44, 3) := by decide +kernel
theorem dX8_isFigure_24 : decode cX8_isFigure 24 = .ok (.ifCond .eq 7, 3) := by decide +kernel
theorem dX8_isFigure_27 : decode cX8_isFigure 27 = .ok (.iconst 1, 1) := by decide +kernel
theorem dX8_isFigure_28 : decode cX8_isFigure 28 = .ok (.goto 4, 3) := by decide +kernel
theorem dX8_isFigure_31 : decode cX8_isFigure 31 = .ok (.iconst 0, 1) := by decide +kernel
theorem dX8_isFigure_32 : decode cX8_isFigure 32 = .ok (.ireturn, 1) := by decide +kernel
set_option maxRecDepth 20000 in
theorem ggX8_takesDigit_X8_peek : GoodIn wsX8_takesDigit wsX8_peek := goodIn_r _ [7, 2, 8, 9, 13, 14, 15, 16, 17, 18, 19, 20, 21, 22, 23, 24, 25, 26, 27] (by decide +kernel) (by decide +kernel)
set_option maxRecDepth 20000 in
theorem gX8_takesDigit_X8_peek : GoodIn wsX8_takesDigit (wsV RX8 92 RX8 yX8_peek wsX8_peek) := goodIn_app (goodIn_of _ (by decide +kernel)) ggX8_takesDigit_X8_peek
set_option maxRecDepth 20000 in
theorem ggX8_takesDigit_X8_in : GoodIn wsX8_takesDigit wsX8_in := goodIn_r _ [12] (by decide +kernel) (by decide +kernel)
set_option maxRecDepth 20000 in
theorem gX8_takesDigit_X8_in : GoodIn wsX8_takesDigit (va_wsS RX8 44 yX8_in wsX8_in) := goodIn_app (goodIn_of _ (by decide +kernel)) ggX8_takesDigit_X8_in
theorem dX8_takesDigit_0 : decode cX8_takesDigit 0 = .ok (.aload_n 0, 1) := by decide +kernel
theorem dX8_takesDigit_1 : decode cX8_takesDigit 1 = .ok (.invokevirtual 92, 3) := by decide +kernel
theorem dX8_takesDigit_4 : decode cX8_takesDigit 4 = .ok (.bipush 48, 2) := by decide +kernel
theorem dX8_takesDigit_6 : decode cX8_takesDigit 6 = .ok (.isub, 1) := by decide +kernel
theorem dX8_takesDigit_7 : decode cX8_takesDigit 7 = .ok (.istore_n 3, 1) := by decide +kernel
theorem dX8_takesDigit_8 : decode cX8_takesDigit 8 = .ok (.iload_n 3, 1) := by decide +kernel
theorem dX8_takesDigit_9 : decode cX8_takesDigit 9 = .ok (.i2l, 1) := by decide +kernel
theorem dX8_takesDigit_10 : decode cX8_takesDigit 10 = .ok (.iload_n 1, 1) := by decide +kernel
theorem dX8_takesDigit_11 : decode cX8_takesDigit 11 = .ok (.i2l, 1) := by decide +kernel
theorem dX8_takesDigit_12 : decode cX8_takesDigit 12 = .ok (.iload_n 2, 1) := by decide +kernel
theorem dX8_takesDigit_13 : decode cX8_takesDigit 13 = .ok (.i2l, 1) := by decide +kernel
theorem dX8_takesDigit_14 : decode cX8_takesDigit 14 = .ok (.invokestatic 44, 3) := by decide +kernel
theorem dX8_takesDigit_17 : decode cX8_takesDigit 17 = .ok (.ifCond .ne 5, 3) := by decide +kernel
theorem dX8_takesDigit_20 : decode cX8_takesDigit 20 = .ok (.iconst 0, 1) := by decide +kernel
theorem dX8_takesDigit_21 : decode cX8_takesDigit 21 = .ok (.ireturn, 1) := by decide +kernel
theorem dX8_takesDigit_22 : decode cX8_takesDigit 22 = .ok (.aload_n 0, 1) := by decide +kernel
theorem dX8_takesDigit_23 : decode cX8_takesDigit 23 = .ok (.iload_n 3, 1) := by decide +kernel
theorem dX8_takesDigit_24 : decode cX8_takesDigit 24 = .ok (.putfield 100, 3) := by decide +kernel
theorem dX8_takesDigit_27 : decode cX8_takesDigit 27 = .ok (.aload_n 0, 1) := by decide +kernel
theorem dX8_takesDigit_28 : decode cX8_takesDigit 28 = .ok (.dup, 1) := by decide +kernel
theorem dX8_takesDigit_29 : decode cX8_takesDigit 29 = .ok (.getfield 89, 3) := by decide +kernel
theorem dX8_takesDigit_32 : decode cX8_takesDigit 32 = .ok (.iconst 1, 1) := by decide +kernel
theorem dX8_takesDigit_33 : decode cX8_takesDigit 33 = .ok (.iadd, 1) := by decide +kernel
theorem dX8_takesDigit_34 : decode cX8_takesDigit 34 = .ok (.putfield 89, 3) := by decide +kernel
theorem dX8_takesDigit_37 : decode cX8_takesDigit 37 = .ok (.iconst 1, 1) := by decide +kernel
theorem dX8_takesDigit_38 : decode cX8_takesDigit 38 = .ok (.ireturn, 1) := by decide +kernel
set_option maxRecDepth 20000 in
theorem ggX8_takesNumber_X8_peek : GoodIn wsX8_takesNumber wsX8_peek := goodIn_r _ [8, 1, 9, 3, 19, 20, 21, 22, 23, 24, 25, 26, 27, 28, 29, 30, 31, 32, 33] (by decide +kernel) (by decide +kernel)
set_option maxRecDepth 20000 in
theorem gX8_takesNumber_X8_peek : GoodIn wsX8_takesNumber (wsV RX8 92 RX8 yX8_peek wsX8_peek) := goodIn_app (goodIn_of _ (by decide +kernel)) ggX8_takesNumber_X8_peek
set_option maxRecDepth 20000 in
theorem ggX8_takesNumber_X8_isFigure : GoodIn wsX8_takesNumber wsX8_isFigure := goodIn_r _ [13, 9, 3, 14, 15, 16, 17, 7, 18, 19, 20, 21, 22, 23, 24, 25, 26, 27, 28, 29, 30, 31, 32, 33] (by decide +kernel) (by decide +kernel)
set_option maxRecDepth 20000 in
theorem gX8_takesNumber_X8_isFigure : GoodIn wsX8_takesNumber (wsV RX8 103 RX8 yX8_isFigure wsX8_isFigure) := goodIn_app (goodIn_of _ (by decide +kernel)) ggX8_takesNumber_X8_isFigure
theorem dX8_takesNumber_0 : decode cX8_takesNumber 0 = .ok (.aload_n 0, 1) := by decide +kernel
theorem dX8_takesNumber_1 : decode cX8_takesNumber 1 = .ok (.invokevirtual 92, 3) := by decide +kernel
theorem dX8_takesNumber_4 : decode cX8_takesNumber 4 = .ok (.pop, 1) := by decide +kernel
theorem dX8_takesNumber_5 : decode cX8_takesNumber 5 = .ok (.aload_n 0, 1) := by decide +kernel
theorem dX8_takesNumber_6 : decode cX8_takesNumber 6 = .ok (.getfield 89, 3) := by decide +kernel
theorem dX8_takesNumber_9 : decode cX8_takesNumber 9 = .ok (.istore_n 2, 1) := by decide +kernel
theorem dX8_takesNumber_10 : decode cX8_takesNumber 10 = .ok (.aload_n 0, 1) := by decide +kernel
theorem dX8_takesNumber_11 : decode cX8_takesNumber 11 = .ok (.iconst 0, 1) := by decide +kernel
theorem dX8_takesNumber_12 : decode cX8_takesNumber 12 = .ok (.putfield 100, 3) := by decide +kernel
theorem dX8_takesNumber_15 : decode cX8_takesNumber 15 = .ok (.aload_n 0, 1) := by decide +kernel
theorem dX8_takesNumber_16 : decode cX8_takesNumber 16 = .ok (.getfield 89, 3) := by decide +kernel
theorem dX8_takesNumber_19 : decode cX8_takesNumber 19 = .ok (.iload_n 2, 1) := by decide +kernel
theorem dX8_takesNumber_20 : decode cX8_takesNumber 20 = .ok (.isub, 1) := by decide +kernel
theorem dX8_takesNumber_21 : decode cX8_takesNumber 21 = .ok (.iconst 2, 1) := by decide +kernel
theorem dX8_takesNumber_22 : decode cX8_takesNumber 22 = .ok (.if_icmp .ge 51, 3) := by decide +kernel
theorem dX8_takesNumber_25 : decode cX8_takesNumber 25 = .ok (.aload_n 0, 1) := by decide +kernel
theorem dX8_takesNumber_26 : decode cX8_takesNumber 26 = .ok (.aload_n 0, 1) := by decide +kernel
theorem dX8_takesNumber_27 : decode cX8_takesNumber 27 = .ok (.getfield 89, 3) := by decide +kernel
theorem dX8_takesNumber_30 : decode cX8_takesNumber 30 = .ok (.invokevirtual 103, 3) := by decide +kernel
theorem dX8_takesNumber_33 : decode cX8_takesNumber 33 = .ok (.ifCond .eq 40, 3) := by decide +kernel
theorem dX8_takesNumber_36 : decode cX8_takesNumber 36 = .ok (.aload_n 0, 1) := by decide +kernel
theorem dX8_takesNumber_37 : decode cX8_takesNumber 37 = .ok (.bipush 10, 2) := by decide +kernel
theorem dX8_takesNumber_39 : decode cX8_takesNumber 39 = .ok (.aload_n 0, 1) := by decide +kernel
theorem dX8_takesNumber_40 : decode cX8_takesNumber 40 = .ok (.getfield 100, 3) := by decide +kernel
theorem dX8_takesNumber_43 : decode cX8_takesNumber 43 = .ok (.imul, 1) := by decide +kernel
theorem dX8_takesNumber_44 : decode cX8_takesNumber 44 = .ok (.aload_n 0, 1) := by decide +kernel
theorem dX8_takesNumber_45 : decode cX8_takesNumber 45 = .ok (.getfield 13, 3) := by decide +kernel
theorem dX8_takesNumber_48 : decode cX8_takesNumber 48 = .ok (.aload_n 0, 1) := by decide +kernel
theorem dX8_takesNumber_49 : decode cX8_takesNumber 49 = .ok (.getfield 89, 3) := by decide +kernel
theorem dX8_takesNumber_52 : decode cX8_takesNumber 52 = .ok (.iaload, 1) := by decide +kernel
theorem dX8_takesNumber_53 : decode cX8_takesNumber 53 = .ok (.iadd, 1) := by decide +kernel
theorem dX8_takesNumber_54 : decode cX8_takesNumber 54 = .ok (.bipush 48, 2) := by decide +kernel
theorem dX8_takesNumber_56 : decode cX8_takesNumber 56 = .ok (.isub, 1) := by decide +kernel
theorem dX8_takesNumber_57 : decode cX8_takesNumber 57 = .ok (.putfield 100, 3) := by decide +kernel
theorem dX8_takesNumber_60 : decode cX8_takesNumber 60 = .ok (.aload_n 0, 1) := by decide +kernel
theorem dX8_takesNumber_61 : decode cX8_takesNumber 61 = .ok (.dup, 1) := by decide +kernel
theorem dX8_takesNumber_62 : decode cX8_takesNumber 62 = .ok (.getfield 89, 3) := by decide +kernel
theorem dX8_takesNumber_65 : decode cX8_takesNumber 65 = .ok (.iconst 1, 1) := by decide +kernel
theorem dX8_takesNumber_66 : decode cX8_takesNumber 66 = .ok (.iadd, 1) := by decide +kernel
theorem dX8_takesNumber_67 : decode cX8_takesNumber 67 = .ok (.putfield 89, 3) := by decide +kernel
theorem dX8_takesNumber_70 : decode cX8_takesNumber 70 = .ok (.goto (-55), 3) := by decide +kernel
theorem dX8_takesNumber_73 : decode cX8_takesNumber 73 = .ok (.aload_n 0, 1) := by decide +kernel
theorem dX8_takesNumber_74 : decode cX8_takesNumber 74 = .ok (.getfield 89, 3) := by decide +kernel
theorem dX8_takesNumber_77 : decode cX8_takesNumber 77 = .ok (.iload_n 2, 1) := by decide +kernel
theorem dX8_takesNumber_78 : decode cX8_takesNumber 78 = .ok (.if_icmp .eq 11, 3) := by decide +kernel
theorem dX8_takesNumber_81 : decode cX8_takesNumber 81 = .ok (.aload_n 0, 1) := by decide +kernel
theorem dX8_takesNumber_82 : decode cX8_takesNumber 82 = .ok (.getfield 100, 3) := by decide +kernel
theorem dX8_takesNumber_85 : decode cX8_takesNumber 85 = .ok (.iload_n 1, 1) := by decide +kernel
theorem dX8_takesNumber_86 : decode cX8_takesNumber 86 = .ok (.if_icmp .le 10, 3) := by decide +kernel
theorem dX8_takesNumber_89 : decode cX8_takesNumber 89 = .ok (.aload_n 0, 1) := by decide +kernel
theorem dX8_takesNumber_90 : decode cX8_takesNumber 90 = .ok (.iload_n 2, 1) := by decide +kernel
theorem dX8_takesNumber_91 : decode cX8_takesNumber 91 = .ok (.putfield 89, 3) := by decide +kernel
