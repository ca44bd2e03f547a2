set_option maxRecDepth 20000 in
theorem gX8_image_X8_bring : GoodIn wsX8_image (wsV RX8 128 RX8 yX8_bring wsX8_bring) := goodIn_app (goodIn_of _ (by decide +kernel)) ggX8_image_X8_bring
theorem dX8_image_0 : decode cX8_image 0 = .ok (.aload_n 0, 1) := by decide +kernel
theorem dX8_image_1 : decode cX8_image 1 = .ok (.iconst 0, 1) := by decide +kernel
theorem dX8_image_2 : decode cX8_image 2 = .ok (.sipush 293, 3) := by decide +kernel
theorem dX8_image_5 : decode cX8_image 5 = .ok (.sipush 293, 3) := by decide +kernel
theorem dX8_image_8 : decode cX8_image 8 = .ok (.invokevirtual 128, 3) := by decide +kernel
theorem dX8_image_11 : decode cX8_image 11 = .ok (.aload_n 0, 1) := by decide +kernel
theorem dX8_image_12 : decode cX8_image 12 = .ok (.iconst 1, 1) := by decide +kernel
theorem dX8_image_13 : decode cX8_image 13 = .ok (.putfield 211, 3) := by decide +kernel
theorem dX8_image_16 : decode cX8_image 16 = .ok (.iconst 1, 1) := by decide +kernel
theorem dX8_image_17 : decode cX8_image 17 = .ok (.ireturn, 1) := by decide +kernel
set_option maxRecDepth 20000 in
theorem ggX8_restore_X8_bring : GoodIn wsX8_restore wsX8_bring := goodIn_r _ [6, 7, 8, 9, 10, 11, 12, 13, 14, 15, 16, 17, 18, 19, 20, 21, 22] (by decide +kernel) (by decide +kernel)
set_option maxRecDepth 20000 in
theorem gX8_restore_X8_bring : GoodIn wsX8_restore (wsV RX8 128 RX8 yX8_bring wsX8_bring) := goodIn_app (goodIn_of _ (by decide +kernel)) ggX8_restore_X8_bring
theorem dX8_restore_0 : decode cX8_restore 0 = .ok (.aload_n 0, 1) := by decide +kernel
theorem dX8_restore_1 : decode cX8_restore 1 = .ok (.getfield 211, 3) := by decide +kernel
theorem dX8_restore_4 : decode cX8_restore 4 = .ok (.ifCond .ne 6, 3) := by decide +kernel
theorem dX8_restore_7 : decode cX8_restore 7 = .ok (.bipush (-4), 2) := by decide +kernel
theorem dX8_restore_9 : decode cX8_restore 9 = .ok (.ireturn, 1) := by decide +kernel
theorem dX8_restore_10 : decode cX8_restore 10 = .ok (.aload_n 0, 1) := by decide +kernel
theorem dX8_restore_11 : decode cX8_restore 11 = .ok (.sipush 293, 3) := by decide +kernel
theorem dX8_restore_14 : decode cX8_restore 14 = .ok (.iconst 0, 1) := by decide +kernel
theorem dX8_restore_15 : decode cX8_restore 15 = .ok (.sipush 293, 3) := by decide +kernel
theorem dX8_restore_18 : decode cX8_restore 18 = .ok (.invokevirtual 128, 3) := by decide +kernel
theorem dX8_restore_21 : decode cX8_restore 21 = .ok (.iconst 1, 1) := by decide +kernel
theorem dX8_restore_22 : decode cX8_restore 22 = .ok (.ireturn, 1) := by decide +kernel
set_option maxRecDepth 20000 in
theorem ggX8_isSheet_X8_in : GoodIn wsX8_isSheet wsX8_in := goodIn_r _ [5] (by decide +kernel) (by decide +kernel)
set_option maxRecDepth 20000 in
theorem gX8_isSheet_X8_in : GoodIn wsX8_isSheet (va_wsS RX8 44 yX8_in wsX8_in) := goodIn_app (goodIn_of _ (by decide +kernel)) ggX8_isSheet_X8_in
theorem dX8_isSheet_0 : decode cX8_isSheet 0 = .ok (.iload_n 0, 1) := by decide +kernel
theorem dX8_isSheet_1 : decode cX8_isSheet 1 = .ok (.i2l, 1) := by decide +kernel
theorem dX8_isSheet_2 : decode cX8_isSheet 2 = .ok (.lconst 0, 1) := by decide +kernel
theorem dX8_isSheet_3 : decode cX8_isSheet 3 = .ok (.ldc2_w 215, 3) := by decide +kernel
theorem dX8_isSheet_6 : decode cX8_isSheet 6 = .ok (.invokestatic 44, 3) := by decide +kernel
theorem dX8_isSheet_9 : decode cX8_isSheet 9 = .ok (.ireturn, 1) := by decide +kernel
set_option maxRecDepth 20000 in
theorem ggX8_isLane_X8_isSheet : GoodIn wsX8_isLane wsX8_isSheet := goodIn_r _ [5, 1, 6, 7, 4, 8] (by decide +kernel) (by decide +kernel)
set_option maxRecDepth 20000 in
theorem gX8_isLane_X8_isSheet : GoodIn wsX8_isLane (va_wsS RX8 217 yX8_isSheet wsX8_isSheet) := goodIn_app (goodIn_of _ (by decide +kernel)) ggX8_isLane_X8_isSheet
set_option maxRecDepth 20000 in
theorem ggX8_isLane_X8_in : GoodIn wsX8_isLane wsX8_in := goodIn_r _ [8] (by decide +kernel) (by decide +kernel)
set_option maxRecDepth 20000 in
theorem gX8_isLane_X8_in : GoodIn wsX8_isLane (va_wsS RX8 44 yX8_in wsX8_in) := goodIn_app (goodIn_of _ (by decide +kernel)) ggX8_isLane_X8_in
theorem dX8_isLane_0 : decode cX8_isLane 0 = .ok (.iload_n 0, 1) := by decide +kernel
theorem dX8_isLane_1 : decode cX8_isLane 1 = .ok (.invokestatic 217, 3) := by decide +kernel
theorem dX8_isLane_4 : decode cX8_isLane 4 = .ok (.ifCond .eq 19, 3) := by decide +kernel
theorem dX8_isLane_7 : decode cX8_isLane 7 = .ok (.iload_n 1, 1) := by decide +kernel
theorem dX8_isLane_8 : decode cX8_isLane 8 = .ok (.i2l, 1) := by decide +kernel
theorem dX8_isLane_9 : decode cX8_isLane 9 = .ok (.lconst 0, 1) := by decide +kernel
theorem dX8_isLane_10 : decode cX8_isLane 10 = .ok (.ldc2_w 215, 3) := by decide +kernel
theorem dX8_isLane_13 : decode cX8_isLane 13 = .ok (.invokestatic 44, 3) := by decide +kernel
theorem dX8_isLane_16 : decode cX8_isLane 16 = .ok (.ifCond .eq 7, 3) := by decide +kernel
theorem dX8_isLane_19 : decode cX8_isLane 19 = .ok (.iconst 1, 1) := by decide +kernel
theorem dX8_isLane_20 : decode cX8_isLane 20 = .ok (.goto 4, 3) := by decide +kernel
theorem dX8_isLane_23 : decode cX8_isLane 23 = .ok (.iconst 0, 1) := by decide +kernel
theorem dX8_isLane_24 : decode cX8_isLane 24 = .ok (.ireturn, 1) := by decide +kernel
theorem dX8_against_0 : decode cX8_against 0 = .ok (.aload_n 0, 1) := by decide +kernel
theorem dX8_against_1 : decode cX8_against 1 = .ok (.getfield 20, 3) := by decide +kernel
theorem dX8_against_4 : decode cX8_against 4 = .ok (.iload_n 1, 1) := by decide +kernel
theorem dX8_against_5 : decode cX8_against 5 = .ok (.iaload, 1) := by decide +kernel
theorem dX8_against_6 : decode cX8_against 6 = .ok (.ifCond .ge 6, 3) := by decide +kernel
theorem dX8_against_9 : decode cX8_against 9 = .ok (.bipush (-11), 2) := by decide +kernel
theorem dX8_against_11 : decode cX8_against 11 = .ok (.ireturn, 1) := by decide +kernel
theorem dX8_against_12 : decode cX8_against 12 = .ok (.aload_n 0, 1) := by decide +kernel
theorem dX8_against_13 : decode cX8_against 13 = .ok (.getfield 23, 3) := by decide +kernel
theorem dX8_against_16 : decode cX8_against 16 = .ok (.iload_n 1, 1) := by decide +kernel
theorem dX8_against_17 : decode cX8_against 17 = .ok (.iaload, 1) := by decide +kernel
theorem dX8_against_18 : decode cX8_against 18 = .ok (.iload_n 2, 1) := by decide +kernel
theorem dX8_against_19 : decode cX8_against 19 = .ok (.if_icmp .eq 6, 3) := by decide +kernel
theorem dX8_against_22 : decode cX8_against 22 = .ok (.bipush (-12), 2) := by decide +kernel
theorem dX8_against_24 : decode cX8_against 24 = .ok (.ireturn, 1) := by decide +kernel
theorem dX8_against_25 : decode cX8_against 25 = .ok (.iload_n 3, 1) := by decide +kernel
theorem dX8_against_26 : decode cX8_against 26 = .ok (.ifCond .lt 25, 3) := by decide +kernel
theorem dX8_against_29 : decode cX8_against 29 = .ok (.iload 4, 2) := by decide +kernel
theorem dX8_against_31 : decode cX8_against 31 = .ok (.ifCond .lt 20, 3) := by decide +kernel
theorem dX8_against_34 : decode cX8_against 34 = .ok (.iload_n 3, 1) := by decide +kernel
theorem dX8_against_35 : decode cX8_against 35 = .ok (.i2l, 1) := by decide +kernel
theorem dX8_against_36 : decode cX8_against 36 = .ok (.iload 4, 2) := by decide +kernel
theorem dX8_against_38 : decode cX8_against 38 = .ok (.i2l, 1) := by decide +kernel
theorem dX8_against_39 : decode cX8_against 39 = .ok (.ladd, 1) := by decide +kernel
theorem dX8_against_40 : decode cX8_against 40 = .ok (.aload_n 0, 1) := by decide +kernel
theorem dX8_against_41 : decode cX8_against 41 = .ok (.getfield 20, 3) := by decide +kernel
theorem dX8_against_44 : decode cX8_against 44 = .ok (.iload_n 1, 1) := by decide +kernel
theorem dX8_against_45 : decode cX8_against 45 = .ok (.iaload, 1) := by decide +kernel
theorem dX8_against_46 : decode cX8_against 46 = .ok (.i2l, 1) := by decide +kernel
theorem dX8_against_47 : decode cX8_against 47 = .ok (.lcmp, 1) := by decide +kernel
theorem dX8_against_48 : decode cX8_against 48 = .ok (.ifCond .le 8, 3) := by decide +kernel
theorem dX8_against_51 : decode cX8_against 51 = .ok (.bipush (-13), 2) := by decide +kernel
theorem dX8_against_53 : decode cX8_against 53 = .ok (.goto 4, 3) := by decide +kernel
theorem dX8_against_56 : decode cX8_against 56 = .ok (.iconst 0, 1) := by decide +kernel
theorem dX8_against_57 : decode cX8_against 57 = .ok (.ireturn, 1) := by decide +kernel
theorem dX8_lowest_0 : decode cX8_lowest 0 = .ok (.iload_n 0, 1) := by decide +kernel
theorem dX8_lowest_1 : decode cX8_lowest 1 = .ok (.ifCond .ne 10, 3) := by decide +kernel
theorem dX8_lowest_4 : decode cX8_lowest 4 = .ok (.lload_n 1, 1) := by decide +kernel
theorem dX8_lowest_5 : decode cX8_lowest 5 = .ok (.l2i, 1) := by decide +kernel
theorem dX8_lowest_6 : decode cX8_lowest 6 = .ok (.i2b, 1) := by decide +kernel
theorem dX8_lowest_7 : decode cX8_lowest 7 = .ok (.i2l, 1) := by decide +kernel
theorem dX8_lowest_8 : decode cX8_lowest 8 = .ok (.goto 27, 3) := by decide +kernel
theorem dX8_lowest_11 : decode cX8_lowest 11 = .ok (.iload_n 0, 1) := by decide +kernel
theorem dX8_lowest_12 : decode cX8_lowest 12 = .ok (.iconst 1, 1) := by decide +kernel
theorem dX8_lowest_13 : decode cX8_lowest 13 = .ok (.if_icmp .ne 10, 3) := by decide +kernel
theorem dX8_lowest_16 : decode cX8_lowest 16 = .ok (.lload_n 1, 1) := by decide +kernel
theorem dX8_lowest_17 : decode cX8_lowest 17 = .ok (.l2i, 1) := by decide +kernel
theorem dX8_lowest_18 : decode cX8_lowest 18 = .ok (.i2s, 1) := by decide +kernel
theorem dX8_lowest_19 : decode cX8_lowest 19 = .ok (.i2l, 1) := by decide +kernel
theorem dX8_lowest_20 : decode cX8_lowest 20 = .ok (.goto 15, 3) := by decide +kernel
theorem dX8_lowest_23 : decode cX8_lowest 23 = .ok (.iload_n 0, 1) := by decide +kernel
theorem dX8_lowest_24 : decode cX8_lowest 24 = .ok (.iconst 2, 1) := by decide +kernel
theorem dX8_lowest_25 : decode cX8_lowest 25 = .ok (.if_icmp .ne 9, 3) := by decide +kernel
theorem dX8_lowest_28 : decode cX8_lowest 28 = .ok (.lload_n 1, 1) := by decide +kernel
theorem dX8_lowest_29 : decode cX8_lowest 29 = .ok (.l2i, 1) := by decide +kernel
theorem dX8_lowest_30 : decode cX8_lowest 30 = .ok (.i2l, 1) := by decide +kernel
theorem dX8_lowest_31 : decode cX8_lowest 31 = .ok (.goto 4, 3) := by decide +kernel
theorem dX8_lowest_34 : decode cX8_lowest 34 = .ok (.lload_n 1, 1) := by decide +kernel
theorem dX8_lowest_35 : decode cX8_lowest 35 = .ok (.lreturn, 1) := by decide +kernel
set_option maxRecDepth 20000 in
theorem ggX8_worn_X8_isMonk : GoodIn wsX8_worn wsX8_isMonk := goodIn_r _ [8, 2, 9, 10, 7, 11, 68, 69, 70, 71, 72, 73, 74, 75, 76, 77, 78, 79, 80, 81, 82] (by decide +kernel) (by decide +kernel)
set_option maxRecDepth 20000 in
theorem gX8_worn_X8_isMonk : GoodIn wsX8_worn (wsV RX8 78 RX8 yX8_isMonk wsX8_isMonk) := goodIn_app (goodIn_of _ (by decide +kernel)) ggX8_worn_X8_isMonk
set_option maxRecDepth 20000 in
theorem ggX8_worn_X8_isLane : GoodIn wsX8_worn wsX8_isLane := goodIn_r _ [14, 15, 16, 17, 7, 18, 9, 10, 11] (by decide +kernel) (by decide +kernel)
set_option maxRecDepth 20000 in
theorem gX8_worn_X8_isLane : GoodIn wsX8_worn (va_wsS RX8 220 yX8_isLane wsX8_isLane) := goodIn_app (goodIn_of _ (by decide +kernel)) ggX8_worn_X8_isLane
set_option maxRecDepth 20000 in
theorem ggX8_worn_X8_in : GoodIn wsX8_worn wsX8_in := goodIn_r _ [11] (by decide +kernel) (by decide +kernel)
set_option maxRecDepth 20000 in
theorem gX8_worn_X8_in : GoodIn wsX8_worn (va_wsS RX8 44 yX8_in wsX8_in) := goodIn_app (goodIn_of _ (by decide +kernel)) ggX8_worn_X8_in
set_option maxRecDepth 20000 in
theorem ggX8_worn_X8_against : GoodIn wsX8_worn wsX8_against := goodIn_r _ [22, 23, 24, 68, 69, 70, 71, 72, 73, 74, 75, 76, 77, 78, 79, 80, 81, 82] (by decide +kernel) (by decide +kernel)
set_option maxRecDepth 20000 in
theorem gX8_worn_X8_against : GoodIn wsX8_worn (wsV RX8 225 RX8 yX8_against wsX8_against) := goodIn_app (goodIn_of _ (by decide +kernel)) ggX8_worn_X8_against
set_option maxRecDepth 20000 in
theorem ggX8_worn_X8_tries : GoodIn wsX8_worn wsX8_tries := goodIn_r _ [28, 29, 30, 31, 7, 32, 2, 68, 69, 70, 71, 72, 73, 74, 75, 76, 77, 78, 79, 80, 81, 82] (by decide +kernel) (by decide +kernel)
set_option maxRecDepth 20000 in
theorem gX8_worn_X8_tries : GoodIn wsX8_worn (wsV RX8 180 RX8 yX8_tries wsX8_tries) := goodIn_app (goodIn_of _ (by decide +kernel)) ggX8_worn_X8_tries
set_option maxRecDepth 20000 in
theorem ggX8_worn_X8_passes : GoodIn wsX8_worn wsX8_passes := goodIn_r _ [36, 2, 37, 38, 7, 39, 40, 41, 42, 43, 44, 45, 46, 47, 48, 49, 50, 51, 52, 53, 54, 55, 56, 57, 58, 59, 60, 61, 62, 63, 64, 65, 66, 67, 68, 69, 70, 71, 72, 73, 74, 75, 76, 77, 78, 79, 80, 81, 82] (by decide +kernel) (by decide +kernel)
set_option maxRecDepth 20000 in
theorem gX8_worn_X8_passes : GoodIn wsX8_worn (wsV RX8 169 RX8 yX8_passes wsX8_passes) := goodIn_app (goodIn_of _ (by decide +kernel)) ggX8_worn_X8_passes
theorem dX8_worn_0 : decode cX8_worn 0 = .ok (.aload_n 0, 1) := by decide +kernel
theorem dX8_worn_1 : decode cX8_worn 1 = .ok (.iload_n 1, 1) := by decide +kernel
theorem dX8_worn_2 : decode cX8_worn 2 = .ok (.invokevirtual 78, 3) := by decide +kernel
theorem dX8_worn_5 : decode cX8_worn 5 = .ok (.ifCond .eq 35, 3) := by decide +kernel
theorem dX8_worn_8 : decode cX8_worn 8 = .ok (.iload_n 2, 1) := by decide +kernel
theorem dX8_worn_9 : decode cX8_worn 9 = .ok (.iload_n 3, 1) := by decide +kernel
theorem dX8_worn_10 : decode cX8_worn 10 = .ok (.invokestatic 220, 3) := by decide +kernel
theorem dX8_worn_13 : decode cX8_worn 13 = .ok (.ifCond .eq 27, 3) := by decide +kernel
theorem dX8_worn_16 : decode cX8_worn 16 = .ok (.iload 5, 2) := by decide +kernel
theorem dX8_worn_18 : decode cX8_worn 18 = .ok (.i2l, 1) := by decide +kernel
theorem dX8_worn_19 : decode cX8_worn 19 = .ok (.lconst 1, 1) := by decide +kernel
theorem dX8_worn_20 : decode cX8_worn 20 = .ok (.ldc2_w 223, 3) := by decide +kernel
theorem dX8_worn_23 : decode cX8_worn 23 = .ok (.invokestatic 44, 3) := by decide +kernel
theorem dX8_worn_26 : decode cX8_worn 26 = .ok (.ifCond .eq 14, 3) := by decide +kernel
theorem dX8_worn_29 : decode cX8_worn 29 = .ok (.iload 6, 2) := by decide +kernel
theorem dX8_worn_31 : decode cX8_worn 31 = .ok (.i2l, 1) := by decide +kernel
theorem dX8_worn_32 : decode cX8_worn 32 = .ok (.lconst 0, 1) := by decide +kernel
theorem dX8_worn_33 : decode cX8_worn 33 = .ok (.lconst 1, 1) := by decide +kernel
theorem dX8_worn_34 : decode cX8_worn 34 = .ok (.invokestatic 44, 3) := by decide +kernel
theorem dX8_worn_37 : decode cX8_worn 37 = .ok (.ifCond .ne 5, 3) := by decide +kernel
theorem dX8_worn_40 : decode cX8_worn 40 = .ok (.iconst (-1), 1) := by decide +kernel
theorem dX8_worn_41 : decode cX8_worn 41 = .ok (.ireturn, 1) := by decide +kernel
theorem dX8_worn_42 : decode cX8_worn 42 = .ok (.aload_n 0, 1) := by decide +kernel
theorem dX8_worn_43 : decode cX8_worn 43 = .ok (.iload_n 2, 1) := by decide +kernel
theorem dX8_worn_44 : decode cX8_worn 44 = .ok (.iload_n 3, 1) := by decide +kernel
theorem dX8_worn_45 : decode cX8_worn 45 = .ok (.iload 4, 2) := by decide +kernel
theorem dX8_worn_47 : decode cX8_worn 47 = .ok (.iload 5, 2) := by decide +kernel
theorem dX8_worn_49 : decode cX8_worn 49 = .ok (.invokevirtual 225, 3) := by decide +kernel
theorem dX8_worn_52 : decode cX8_worn 52 = .ok (.istore 7, 2) := by decide +kernel
theorem dX8_worn_54 : decode cX8_worn 54 = .ok (.iload 7, 2) := by decide +kernel
theorem dX8_worn_56 : decode cX8_worn 56 = .ok (.ifCond .ge 6, 3) := by decide +kernel
theorem dX8_worn_59 : decode cX8_worn 59 = .ok (.iload 7, 2) := by decide +kernel
theorem dX8_worn_61 : decode cX8_worn 61 = .ok (.ireturn, 1) := by decide +kernel
theorem dX8_worn_62 : decode cX8_worn 62 = .ok (.iload 6, 2) := by decide +kernel
theorem dX8_worn_64 : decode cX8_worn 64 = .ok (.iconst 1, 1) := by decide +kernel
theorem dX8_worn_65 : decode cX8_worn 65 = .ok (.if_icmp .ne 20, 3) := by decide +kernel
theorem dX8_worn_68 : decode cX8_worn 68 = .ok (.aload_n 0, 1) := by decide +kernel
theorem dX8_worn_69 : decode cX8_worn 69 = .ok (.getfield 7, 3) := by decide +kernel
theorem dX8_worn_72 : decode cX8_worn 72 = .ok (.bipush 28, 2) := by decide +kernel
theorem dX8_worn_74 : decode cX8_worn 74 = .ok (.iload_n 1, 1) := by decide +kernel
theorem dX8_worn_75 : decode cX8_worn 75 = .ok (.iadd, 1) := by decide +kernel
theorem dX8_worn_76 : decode cX8_worn 76 = .ok (.iaload, 1) := by decide +kernel
theorem dX8_worn_77 : decode cX8_worn 77 = .ok (.bipush (-4), 2) := by decide +kernel
theorem dX8_worn_79 : decode cX8_worn 79 = .ok (.if_icmp .ne 6, 3) := by decide +kernel
theorem dX8_worn_82 : decode cX8_worn 82 = .ok (.bipush (-2), 2) := by decide +kernel
theorem dX8_worn_84 : decode cX8_worn 84 = .ok (.ireturn, 1) := by decide +kernel
theorem dX8_worn_85 : decode cX8_worn 85 = .ok (.iconst 0, 1) := by decide +kernel
theorem dX8_worn_86 : decode cX8_worn 86 = .ok (.istore 8, 2) := by decide +kernel
theorem dX8_worn_88 : decode cX8_worn 88 = .ok (.iload 6, 2) := by decide +kernel
theorem dX8_worn_90 : decode cX8_worn 90 = .ok (.istore 9, 2) := by decide +kernel
theorem dX8_worn_92 : decode cX8_worn 92 = .ok (.iload 9, 2) := by decide +kernel
theorem dX8_worn_94 : decode cX8_worn 94 = .ok (.iload 6, 2) := by decide +kernel
theorem dX8_worn_96 : decode cX8_worn 96 = .ok (.ifCond .ne 7, 3) := by decide +kernel
theorem dX8_worn_99 : decode cX8_worn 99 = .ok (.iconst 4, 1) := by decide +kernel
theorem dX8_worn_100 : decode cX8_worn 100 = .ok (.goto 5, 3) := by decide +kernel
theorem dX8_worn_103 : decode cX8_worn 103 = .ok (.bipush 9, 2) := by decide +kernel
theorem dX8_worn_105 : decode cX8_worn 105 = .ok (.if_icmp .gt 135, 3) := by decide +kernel
theorem dX8_worn_108 : decode cX8_worn 108 = .ok (.aload_n 0, 1) := by decide +kernel
theorem dX8_worn_109 : decode cX8_worn 109 = .ok (.invokevirtual 180, 3) := by decide +kernel
theorem dX8_worn_112 : decode cX8_worn 112 = .ok (.aload_n 0, 1) := by decide +kernel
theorem dX8_worn_113 : decode cX8_worn 113 = .ok (.getfield 7, 3) := by decide +kernel
theorem dX8_worn_116 : decode cX8_worn 116 = .ok (.sipush 586, 3) := by decide +kernel
theorem dX8_worn_119 : decode cX8_worn 119 = .ok (.iload 6, 2) := by decide +kernel
theorem dX8_worn_121 : decode cX8_worn 121 = .ok (.ifCond .ne 10, 3) := by decide +kernel
theorem dX8_worn_124 : decode cX8_worn 124 = .ok (.bipush 39, 2) := by decide +kernel
theorem dX8_worn_126 : decode cX8_worn 126 = .ok (.iload_n 1, 1) := by decide +kernel
theorem dX8_worn_127 : decode cX8_worn 127 = .ok (.iadd, 1) := by decide +kernel
theorem dX8_worn_128 : decode cX8_worn 128 = .ok (.goto 15, 3) := by decide +kernel
theorem dX8_worn_131 : decode cX8_worn 131 = .ok (.bipush 33, 2) := by decide +kernel
theorem dX8_worn_133 : decode cX8_worn 133 = .ok (.aload_n 0, 1) := by decide +kernel
theorem dX8_worn_134 : decode cX8_worn 134 = .ok (.getfield 7, 3) := by decide +kernel
theorem dX8_worn_137 : decode cX8_worn 137 = .ok (.bipush 28, 2) := by decide +kernel
theorem dX8_worn_139 : decode cX8_worn 139 = .ok (.iload_n 1, 1) := by decide +kernel
theorem dX8_worn_140 : decode cX8_worn 140 = .ok (.iadd, 1) := by decide +kernel
theorem dX8_worn_141 : decode cX8_worn 141 = .ok (.iaload, 1) := by decide +kernel
theorem dX8_worn_142 : decode cX8_worn 142 = .ok (.iadd, 1) := by decide +kernel
theorem dX8_worn_143 : decode cX8_worn 143 = .ok (.iadd, 1) := by decide +kernel
theorem dX8_worn_144 : decode cX8_worn 144 = .ok (.iload 9, 2) := by decide +kernel
theorem dX8_worn_146 : decode cX8_worn 146 = .ok (.iastore, 1) := by decide +kernel
theorem dX8_worn_147 : decode cX8_worn 147 = .ok (.iconst 1, 1) := by decide +kernel
theorem dX8_worn_148 : decode cX8_worn 148 = .ok (.istore 10, 2) := by decide +kernel
theorem dX8_worn_150 : decode cX8_worn 150 = .ok (.iconst 0, 1) := by decide +kernel
theorem dX8_worn_151 : decode cX8_worn 151 = .ok (.istore 11, 2) := by decide +kernel
theorem dX8_worn_153 : decode cX8_worn 153 = .ok (.iload 11, 2) := by decide +kernel
theorem dX8_worn_155 : decode cX8_worn 155 = .ok (.iload 5, 2) := by decide +kernel
theorem dX8_worn_157 : decode cX8_worn 157 = .ok (.if_icmp .ge 59, 3) := by decide +kernel
theorem dX8_worn_160 : decode cX8_worn 160 = .ok (.iload 10, 2) := by decide +kernel
theorem dX8_worn_162 : decode cX8_worn 162 = .ok (.ifCond .eq 54, 3) := by decide +kernel
theorem dX8_worn_165 : decode cX8_worn 165 = .ok (.aload_n 0, 1) := by decide +kernel
theorem dX8_worn_166 : decode cX8_worn 166 = .ok (.sipush 586, 3) := by decide +kernel
theorem dX8_worn_169 : decode cX8_worn 169 = .ok (.iconst 0, 1) := by decide +kernel
theorem dX8_worn_170 : decode cX8_worn 170 = .ok (.invokevirtual 169, 3) := by decide +kernel
theorem dX8_worn_173 : decode cX8_worn 173 = .ok (.aload_n 0, 1) := by decide +kernel
theorem dX8_worn_174 : decode cX8_worn 174 = .ok (.getfield 7, 3) := by decide +kernel
theorem dX8_worn_177 : decode cX8_worn 177 = .ok (.sipush 609, 3) := by decide +kernel
theorem dX8_worn_180 : decode cX8_worn 180 = .ok (.iload_n 1, 1) := by decide +kernel
theorem dX8_worn_181 : decode cX8_worn 181 = .ok (.iadd, 1) := by decide +kernel
theorem dX8_worn_182 : decode cX8_worn 182 = .ok (.iaload, 1) := by decide +kernel
theorem dX8_worn_183 : decode cX8_worn 183 = .ok (.i2l, 1) := by decide +kernel
theorem dX8_worn_184 : decode cX8_worn 184 = .ok (.aload_n 0, 1) := by decide +kernel
theorem dX8_worn_185 : decode cX8_worn 185 = .ok (.getfield 16, 3) := by decide +kernel
theorem dX8_worn_188 : decode cX8_worn 188 = .ok (.bipush 24, 2) := by decide +kernel
theorem dX8_worn_190 : decode cX8_worn 190 = .ok (.iload_n 2, 1) := by decide +kernel
theorem dX8_worn_191 : decode cX8_worn 191 = .ok (.imul, 1) := by decide +kernel
theorem dX8_worn_192 : decode cX8_worn 192 = .ok (.iload 4, 2) := by decide +kernel
theorem dX8_worn_194 : decode cX8_worn 194 = .ok (.iadd, 1) := by decide +kernel
theorem dX8_worn_195 : decode cX8_worn 195 = .ok (.iload 11, 2) := by decide +kernel
theorem dX8_worn_197 : decode cX8_worn 197 = .ok (.iadd, 1) := by decide +kernel
theorem dX8_worn_198 : decode cX8_worn 198 = .ok (.laload, 1) := by decide +kernel
theorem dX8_worn_199 : decode cX8_worn 199 = .ok (.lcmp, 1) := by decide +kernel
theorem dX8_worn_200 : decode cX8_worn 200 = .ok (.ifCond .ne 7, 3) := by decide +kernel
theorem dX8_worn_203 : decode cX8_worn 203 = .ok (.iconst 1, 1) := by decide +kernel
theorem dX8_worn_204 : decode cX8_worn 204 = .ok (.goto 4, 3) := by decide +kernel
theorem dX8_worn_207 : decode cX8_worn 207 = .ok (.iconst 0, 1) := by decide +kernel
theorem dX8_worn_208 : decode cX8_worn 208 = .ok (.istore 10, 2) := by decide +kernel
theorem dX8_worn_210 : decode cX8_worn 210 = .ok (.iinc 11 1, 3) := by decide +kernel
theorem dX8_worn_213 : decode cX8_worn 213 = .ok (.goto (-60), 3) := by decide +kernel
theorem dX8_worn_216 : decode cX8_worn 216 = .ok (.iload 8, 2) := by decide +kernel
theorem dX8_worn_218 : decode cX8_worn 218 = .ok (.iload 10, 2) := by decide +kernel
theorem dX8_worn_220 : decode cX8_worn 220 = .ok (.ifCond .eq 10, 3) := by decide +kernel
theorem dX8_worn_223 : decode cX8_worn 223 = .ok (.iconst 1, 1) := by decide +kernel
theorem dX8_worn_224 : decode cX8_worn 224 = .ok (.iload 9, 2) := by decide +kernel
theorem dX8_worn_226 : decode cX8_worn 226 = .ok (.ishl, 1) := by decide +kernel
theorem dX8_worn_227 : decode cX8_worn 227 = .ok (.goto 4, 3) := by decide +kernel
theorem dX8_worn_230 : decode cX8_worn 230 = .ok (.iconst 0, 1) := by decide +kernel
theorem dX8_worn_231 : decode cX8_worn 231 = .ok (.ior, 1) := by decide +kernel
theorem dX8_worn_232 : decode cX8_worn 232 = .ok (.istore 8, 2) := by decide +kernel
theorem dX8_worn_234 : decode cX8_worn 234 = .ok (.iinc 9 1, 3) := by decide +kernel
theorem dX8_worn_237 : decode cX8_worn 237 = .ok (.goto (-145), 3) := by decide +kernel
theorem dX8_worn_240 : decode cX8_worn 240 = .ok (.iload 8, 2) := by decide +kernel
theorem dX8_worn_242 : decode cX8_worn 242 = .ok (.ireturn, 1) := by decide +kernel
set_option maxRecDepth 20000 in
theorem ggX8_swept_X8_in : GoodIn wsX8_swept wsX8_in := goodIn_r _ [10] (by decide +kernel) (by decide +kernel)
set_option maxRecDepth 20000 in
theorem gX8_swept_X8_in : GoodIn wsX8_swept (va_wsS RX8 44 yX8_in wsX8_in) := goodIn_app (goodIn_of _ (by decide +kernel)) ggX8_swept_X8_in
set_option maxRecDepth 20000 in
theorem ggX8_swept_X8_isLane : GoodIn wsX8_swept wsX8_isLane := goodIn_r _ [13, 14, 15, 16, 9, 17, 7, 8, 10] (by decide +kernel) (by decide +kernel)
set_option maxRecDepth 20000 in
theorem gX8_swept_X8_isLane : GoodIn wsX8_swept (va_wsS RX8 220 yX8_isLane wsX8_isLane) := goodIn_app (goodIn_of _ (by decide +kernel)) ggX8_swept_X8_isLane
set_option maxRecDepth 20000 in
theorem ggX8_swept_X8_against : GoodIn wsX8_swept wsX8_against := goodIn_r _ [21, 22, 23, 24, 25, 26, 27, 28, 29, 30, 31, 32, 33, 34, 35, 36, 37, 38] (by decide +kernel) (by decide +kernel)
set_option maxRecDepth 20000 in
theorem gX8_swept_X8_against : GoodIn wsX8_swept (wsV RX8 225 RX8 yX8_against wsX8_against) := goodIn_app (goodIn_of _ (by decide +kernel)) ggX8_swept_X8_against
theorem dX8_swept_0 : decode cX8_swept 0 = .ok (.iload_n 1, 1) := by decide +kernel
theorem dX8_swept_1 : decode cX8_swept 1 = .ok (.i2l, 1) := by decide +kernel
theorem dX8_swept_2 : decode cX8_swept 2 = .ok (.lconst 0, 1) := by decide +kernel
theorem dX8_swept_3 : decode cX8_swept 3 = .ok (.ldc2_w 58, 3) := by decide +kernel
theorem dX8_swept_6 : decode cX8_swept 6 = .ok (.invokestatic 44, 3) := by decide +kernel
theorem dX8_swept_9 : decode cX8_swept 9 = .ok (.ifCond .eq 24, 3) := by decide +kernel
theorem dX8_swept_12 : decode cX8_swept 12 = .ok (.iload_n 2, 1) := by decide +kernel
theorem dX8_swept_13 : decode cX8_swept 13 = .ok (.iload_n 3, 1) := by decide +kernel
theorem dX8_swept_14 : decode cX8_swept 14 = .ok (.invokestatic 220, 3) := by decide +kernel
theorem dX8_swept_17 : decode cX8_swept 17 = .ok (.ifCond .eq 16, 3) := by decide +kernel
theorem dX8_swept_20 : decode cX8_swept 20 = .ok (.iload 5, 2) := by decide +kernel
theorem dX8_swept_22 : decode cX8_swept 22 = .ok (.i2l, 1) := by decide +kernel
theorem dX8_swept_23 : decode cX8_swept 23 = .ok (.lconst 1, 1) := by decide +kernel
theorem dX8_swept_24 : decode cX8_swept 24 = .ok (.ldc2_w 229, 3) := by decide +kernel
theorem dX8_swept_27 : decode cX8_swept 27 = .ok (.invokestatic 44, 3) := by decide +kernel
theorem dX8_swept_30 : decode cX8_swept 30 = .ok (.ifCond .ne 5, 3) := by decide +kernel
theorem dX8_swept_33 : decode cX8_swept 33 = .ok (.iconst (-1), 1) := by decide +kernel
theorem dX8_swept_34 : decode cX8_swept 34 = .ok (.ireturn, 1) := by decide +kernel
theorem dX8_swept_35 : decode cX8_swept 35 = .ok (.aload_n 0, 1) := by decide +kernel
theorem dX8_swept_36 : decode cX8_swept 36 = .ok (.iload_n 2, 1) := by decide +kernel
theorem dX8_swept_37 : decode cX8_swept 37 = .ok (.iload_n 3, 1) := by decide +kernel
theorem dX8_swept_38 : decode cX8_swept 38 = .ok (.iload 4, 2) := by decide +kernel
theorem dX8_swept_40 : decode cX8_swept 40 = .ok (.iload 5, 2) := by decide +kernel
theorem dX8_swept_42 : decode cX8_swept 42 = .ok (.invokevirtual 225, 3) := by decide +kernel
theorem dX8_swept_45 : decode cX8_swept 45 = .ok (.istore 6, 2) := by decide +kernel
theorem dX8_swept_47 : decode cX8_swept 47 = .ok (.iload 6, 2) := by decide +kernel
theorem dX8_swept_49 : decode cX8_swept 49 = .ok (.ifCond .ge 6, 3) := by decide +kernel
theorem dX8_swept_52 : decode cX8_swept 52 = .ok (.iload 6, 2) := by decide +kernel
theorem dX8_swept_54 : decode cX8_swept 54 = .ok (.ireturn, 1) := by decide +kernel
theorem dX8_swept_55 : decode cX8_swept 55 = .ok (.iconst 0, 1) := by decide +kernel
theorem dX8_swept_56 : decode cX8_swept 56 = .ok (.istore 7, 2) := by decide +kernel
theorem dX8_swept_58 : decode cX8_swept 58 = .ok (.iload 7, 2) := by decide +kernel
theorem dX8_swept_60 : decode cX8_swept 60 = .ok (.iload 5, 2) := by decide +kernel
theorem dX8_swept_62 : decode cX8_swept 62 = .ok (.if_icmp .ge 37, 3) := by decide +kernel
theorem dX8_swept_65 : decode cX8_swept 65 = .ok (.aload_n 0, 1) := by decide +kernel
theorem dX8_swept_66 : decode cX8_swept 66 = .ok (.getfield 16, 3) := by decide +kernel
theorem dX8_swept_69 : decode cX8_swept 69 = .ok (.bipush 24, 2) := by decide +kernel
theorem dX8_swept_71 : decode cX8_swept 71 = .ok (.iload_n 2, 1) := by decide +kernel
theorem dX8_swept_72 : decode cX8_swept 72 = .ok (.imul, 1) := by decide +kernel
theorem dX8_swept_73 : decode cX8_swept 73 = .ok (.iload 4, 2) := by decide +kernel
theorem dX8_swept_75 : decode cX8_swept 75 = .ok (.iadd, 1) := by decide +kernel
theorem dX8_swept_76 : decode cX8_swept 76 = .ok (.iload 7, 2) := by decide +kernel
theorem dX8_swept_78 : decode cX8_swept 78 = .ok (.iadd, 1) := by decide +kernel
theorem dX8_swept_79 : decode cX8_swept 79 = .ok (.laload, 1) := by decide +kernel
theorem dX8_swept_80 : decode cX8_swept 80 = .ok (.lconst 1, 1) := by decide +kernel
theorem dX8_swept_81 : decode cX8_swept 81 = .ok (.ldc2_w 50, 3) := by decide +kernel
theorem dX8_swept_84 : decode cX8_swept 84 = .ok (.invokestatic 44, 3) := by decide +kernel
theorem dX8_swept_87 : decode cX8_swept 87 = .ok (.ifCond .ne 6, 3) := by decide +kernel
theorem dX8_swept_90 : decode cX8_swept 90 = .ok (.bipush (-2), 2) := by decide +kernel
theorem dX8_swept_92 : decode cX8_swept 92 = .ok (.ireturn, 1) := by decide +kernel
theorem dX8_swept_93 : decode cX8_swept 93 = .ok (.iinc 7 1, 3) := by decide +kernel
theorem dX8_swept_96 : decode cX8_swept 96 = .ok (.goto (-38), 3) := by decide +kernel
theorem dX8_swept_99 : decode cX8_swept 99 = .ok (.iconst 0, 1) := by decide +kernel
theorem dX8_swept_100 : decode cX8_swept 100 = .ok (.istore 7, 2) := by decide +kernel
theorem dX8_swept_102 : decode cX8_swept 102 = .ok (.iload 7, 2) := by decide +kernel
theorem dX8_swept_104 : decode cX8_swept 104 = .ok (.iload_n 1, 1) := by decide +kernel
theorem dX8_swept_105 : decode cX8_swept 105 = .ok (.if_icmp .gt 26, 3) := by decide +kernel
theorem dX8_swept_108 : decode cX8_swept 108 = .ok (.aload_n 0, 1) := by decide +kernel
theorem dX8_swept_109 : decode cX8_swept 109 = .ok (.getfield 38, 3) := by decide +kernel
theorem dX8_swept_112 : decode cX8_swept 112 = .ok (.iload 7, 2) := by decide +kernel
theorem dX8_swept_114 : decode cX8_swept 114 = .ok (.iload 7, 2) := by decide +kernel
theorem dX8_swept_116 : decode cX8_swept 116 = .ok (.ifCond .ne 7, 3) := by decide +kernel
theorem dX8_swept_119 : decode cX8_swept 119 = .ok (.iconst 1, 1) := by decide +kernel
theorem dX8_swept_120 : decode cX8_swept 120 = .ok (.goto 4, 3) := by decide +kernel
theorem dX8_swept_123 : decode cX8_swept 123 = .ok (.iconst 0, 1) := by decide +kernel
theorem dX8_swept_124 : decode cX8_swept 124 = .ok (.iastore, 1) := by decide +kernel
theorem dX8_swept_125 : decode cX8_swept 125 = .ok (.iinc 7 1, 3) := by decide +kernel
theorem dX8_swept_128 : decode cX8_swept 128 = .ok (.goto (-26), 3) := by decide +kernel
theorem dX8_swept_131 : decode cX8_swept 131 = .ok (.iconst 0, 1) := by decide +kernel
theorem dX8_swept_132 : decode cX8_swept 132 = .ok (.istore 7, 2) := by decide +kernel
theorem dX8_swept_134 : decode cX8_swept 134 = .ok (.iload 7, 2) := by decide +kernel
theorem dX8_swept_136 : decode cX8_swept 136 = .ok (.iload 5, 2) := by decide +kernel
theorem dX8_swept_138 : decode cX8_swept 138 = .ok (.if_icmp .ge 71, 3) := by decide +kernel
theorem dX8_swept_141 : decode cX8_swept 141 = .ok (.aload_n 0, 1) := by decide +kernel
theorem dX8_swept_142 : decode cX8_swept 142 = .ok (.getfield 16, 3) := by decide +kernel
theorem dX8_swept_145 : decode cX8_swept 145 = .ok (.bipush 24, 2) := by decide +kernel
theorem dX8_swept_147 : decode cX8_swept 147 = .ok (.iload_n 2, 1) := by decide +kernel
theorem dX8_swept_148 : decode cX8_swept 148 = .ok (.imul, 1) := by decide +kernel
theorem dX8_swept_149 : decode cX8_swept 149 = .ok (.iload 4, 2) := by decide +kernel
theorem dX8_swept_151 : decode cX8_swept 151 = .ok (.iadd, 1) := by decide +kernel
theorem dX8_swept_152 : decode cX8_swept 152 = .ok (.iload 7, 2) := by decide +kernel
theorem dX8_swept_154 : decode cX8_swept 154 = .ok (.iadd, 1) := by decide +kernel
theorem dX8_swept_155 : decode cX8_swept 155 = .ok (.laload, 1) := by decide +kernel
theorem dX8_swept_156 : decode cX8_swept 156 = .ok (.l2i, 1) := by decide +kernel
theorem dX8_swept_157 : decode cX8_swept 157 = .ok (.istore 8, 2) := by decide +kernel
theorem dX8_swept_159 : decode cX8_swept 159 = .ok (.iload 8, 2) := by decide +kernel
theorem dX8_swept_161 : decode cX8_swept 161 = .ok (.istore 9, 2) := by decide +kernel
theorem dX8_swept_163 : decode cX8_swept 163 = .ok (.iload 9, 2) := by decide +kernel
theorem dX8_swept_165 : decode cX8_swept 165 = .ok (.iload_n 1, 1) := by decide +kernel
theorem dX8_swept_166 : decode cX8_swept 166 = .ok (.if_icmp .gt 37, 3) := by decide +kernel
theorem dX8_swept_169 : decode cX8_swept 169 = .ok (.aload_n 0, 1) := by decide +kernel
theorem dX8_swept_170 : decode cX8_swept 170 = .ok (.getfield 38, 3) := by decide +kernel
theorem dX8_swept_173 : decode cX8_swept 173 = .ok (.iload 9, 2) := by decide +kernel
theorem dX8_swept_175 : decode cX8_swept 175 = .ok (.aload_n 0, 1) := by decide +kernel
theorem dX8_swept_176 : decode cX8_swept 176 = .ok (.getfield 38, 3) := by decide +kernel
theorem dX8_swept_179 : decode cX8_swept 179 = .ok (.iload 9, 2) := by decide +kernel
theorem dX8_swept_181 : decode cX8_swept 181 = .ok (.iaload, 1) := by decide +kernel
theorem dX8_swept_182 : decode cX8_swept 182 = .ok (.aload_n 0, 1) := by decide +kernel
theorem dX8_swept_183 : decode cX8_swept 183 = .ok (.getfield 38, 3) := by decide +kernel
theorem dX8_swept_186 : decode cX8_swept 186 = .ok (.iload 9, 2) := by decide +kernel
theorem dX8_swept_188 : decode cX8_swept 188 = .ok (.iload 8, 2) := by decide +kernel
theorem dX8_swept_190 : decode cX8_swept 190 = .ok (.isub, 1) := by decide +kernel
theorem dX8_swept_191 : decode cX8_swept 191 = .ok (.iaload, 1) := by decide +kernel
theorem dX8_swept_192 : decode cX8_swept 192 = .ok (.iadd, 1) := by decide +kernel
theorem dX8_swept_193 : decode cX8_swept 193 = .ok (.ldc 231, 2) := by decide +kernel
theorem dX8_swept_195 : decode cX8_swept 195 = .ok (.irem, 1) := by decide +kernel
theorem dX8_swept_196 : decode cX8_swept 196 = .ok (.iastore, 1) := by decide +kernel
theorem dX8_swept_197 : decode cX8_swept 197 = .ok (.iinc 9 1, 3) := by decide +kernel
theorem dX8_swept_200 : decode cX8_swept 200 = .ok (.goto (-37), 3) := by decide +kernel
theorem dX8_swept_203 : decode cX8_swept 203 = .ok (.iinc 7 1, 3) := by decide +kernel
theorem dX8_swept_206 : decode cX8_swept 206 = .ok (.goto (-72), 3) := by decide +kernel
theorem dX8_swept_209 : decode cX8_swept 209 = .ok (.aload_n 0, 1) := by decide +kernel
theorem dX8_swept_210 : decode cX8_swept 210 = .ok (.getfield 38, 3) := by decide +kernel
theorem dX8_swept_213 : decode cX8_swept 213 = .ok (.iload_n 1, 1) := by decide +kernel
theorem dX8_swept_214 : decode cX8_swept 214 = .ok (.iaload, 1) := by decide +kernel
theorem dX8_swept_215 : decode cX8_swept 215 = .ok (.ireturn, 1) := by decide +kernel
set_option maxRecDepth 20000 in
theorem ggX8_film_X8_isMonk : GoodIn wsX8_film wsX8_isMonk := goodIn_r _ [8, 3, 9, 10, 7, 11, 68, 69, 70, 71, 72, 73, 74, 75, 76, 77, 78, 79, 80, 81, 82] (by decide +kernel) (by decide +kernel)
set_option maxRecDepth 20000 in
theorem gX8_film_X8_isMonk : GoodIn wsX8_film (wsV RX8 78 RX8 yX8_isMonk wsX8_isMonk) := goodIn_app (goodIn_of _ (by decide +kernel)) ggX8_film_X8_isMonk
set_option maxRecDepth 20000 in
theorem ggX8_film_X8_in : GoodIn wsX8_film wsX8_in := goodIn_r _ [11] (by decide +kernel) (by decide +kernel)
set_option maxRecDepth 20000 in
theorem gX8_film_X8_in : GoodIn wsX8_film (va_wsS RX8 44 yX8_in wsX8_in) := goodIn_app (goodIn_of _ (by decide +kernel)) ggX8_film_X8_in
set_option maxRecDepth 20000 in
theorem ggX8_film_X8_isLane : GoodIn wsX8_film wsX8_isLane := goodIn_r _ [14, 15, 16, 17, 7, 18, 9, 10, 11] (by decide +kernel) (by decide +kernel)
set_option maxRecDepth 20000 in
theorem gX8_film_X8_isLane : GoodIn wsX8_film (va_wsS RX8 220 yX8_isLane wsX8_isLane) := goodIn_app (goodIn_of _ (by decide +kernel)) ggX8_film_X8_isLane
set_option maxRecDepth 20000 in
theorem ggX8_film_X8_against : GoodIn wsX8_film wsX8_against := goodIn_r _ [22, 23, 24, 68, 69, 70, 71, 72, 73, 74, 75, 76, 77, 78, 79, 80, 81, 82] (by decide +kernel) (by decide +kernel)
set_option maxRecDepth 20000 in
theorem gX8_film_X8_against : GoodIn wsX8_film (wsV RX8 225 RX8 yX8_against wsX8_against) := goodIn_app (goodIn_of _ (by decide +kernel)) ggX8_film_X8_against
set_option maxRecDepth 20000 in
theorem ggX8_film_X8_tries : GoodIn wsX8_film wsX8_tries := goodIn_r _ [28, 29, 30, 31, 7, 32, 3, 68, 69, 70, 71, 72, 73, 74, 75, 76, 77, 78, 79, 80, 81, 82] (by decide +kernel) (by decide +kernel)
set_option maxRecDepth 20000 in
theorem gX8_film_X8_tries : GoodIn wsX8_film (wsV RX8 180 RX8 yX8_tries wsX8_tries) := goodIn_app (goodIn_of _ (by decide +kernel)) ggX8_film_X8_tries
set_option maxRecDepth 20000 in
theorem ggX8_film_X8_passes : GoodIn wsX8_film wsX8_passes := goodIn_r _ [36, 3, 37, 38, 7, 39, 40, 41, 42, 43, 44, 45, 46, 47, 48, 49, 50, 51, 52, 53, 54, 55, 56, 57, 58, 59, 60, 61, 62, 63, 64, 65, 66, 67, 68, 69, 70, 71, 72, 73, 74, 75, 76, 77, 78, 79, 80, 81, 82] (by decide +kernel) (by decide +kernel)
set_option maxRecDepth 20000 in
theorem gX8_film_X8_passes : GoodIn wsX8_film (wsV RX8 169 RX8 yX8_passes wsX8_passes) := goodIn_app (goodIn_of _ (by decide +kernel)) ggX8_film_X8_passes
theorem dX8_film_0 : decode cX8_film 0 = .ok (.aload_n 0, 1) := by decide +kernel
theorem dX8_film_1 : decode cX8_film 1 = .ok (.iload_n 1, 1) := by decide +kernel
theorem dX8_film_2 : decode cX8_film 2 = .ok (.invokevirtual 78, 3) := by decide +kernel
theorem dX8_film_5 : decode cX8_film 5 = .ok (.ifCond .eq 24, 3) := by decide +kernel
theorem dX8_film_8 : decode cX8_film 8 = .ok (.iload_n 2, 1) := by decide +kernel
theorem dX8_film_9 : decode cX8_film 9 = .ok (.i2l, 1) := by decide +kernel
theorem dX8_film_10 : decode cX8_film 10 = .ok (.lconst 1, 1) := by decide +kernel
theorem dX8_film_11 : decode cX8_film 11 = .ok (.ldc2_w 232, 3) := by decide +kernel
theorem dX8_film_14 : decode cX8_film 14 = .ok (.invokestatic 44, 3) := by decide +kernel
theorem dX8_film_17 : decode cX8_film 17 = .ok (.ifCond .eq 12, 3) := by decide +kernel
theorem dX8_film_20 : decode cX8_film 20 = .ok (.iload_n 3, 1) := by decide +kernel
theorem dX8_film_21 : decode cX8_film 21 = .ok (.iload 4, 2) := by decide +kernel
theorem dX8_film_23 : decode cX8_film 23 = .ok (.invokestatic 220, 3) := by decide +kernel
theorem dX8_film_26 : decode cX8_film 26 = .ok (.ifCond .ne 5, 3) := by decide +kernel
theorem dX8_film_29 : decode cX8_film 29 = .ok (.iconst (-1), 1) := by decide +kernel
theorem dX8_film_30 : decode cX8_film 30 = .ok (.ireturn, 1) := by decide +kernel
theorem dX8_film_31 : decode cX8_film 31 = .ok (.aload_n 0, 1) := by decide +kernel
theorem dX8_film_32 : decode cX8_film 32 = .ok (.iload_n 3, 1) := by decide +kernel
theorem dX8_film_33 : decode cX8_film 33 = .ok (.iload 4, 2) := by decide +kernel
theorem dX8_film_35 : decode cX8_film 35 = .ok (.iload 5, 2) := by decide +kernel
theorem dX8_film_37 : decode cX8_film 37 = .ok (.iload_n 2, 1) := by decide +kernel
theorem dX8_film_38 : decode cX8_film 38 = .ok (.invokevirtual 225, 3) := by decide +kernel
theorem dX8_film_41 : decode cX8_film 41 = .ok (.istore 6, 2) := by decide +kernel
theorem dX8_film_43 : decode cX8_film 43 = .ok (.iload 6, 2) := by decide +kernel
theorem dX8_film_45 : decode cX8_film 45 = .ok (.ifCond .ge 6, 3) := by decide +kernel
theorem dX8_film_48 : decode cX8_film 48 = .ok (.iload 6, 2) := by decide +kernel
theorem dX8_film_50 : decode cX8_film 50 = .ok (.ireturn, 1) := by decide +kernel
theorem dX8_film_51 : decode cX8_film 51 = .ok (.aload_n 0, 1) := by decide +kernel
theorem dX8_film_52 : decode cX8_film 52 = .ok (.invokevirtual 180, 3) := by decide +kernel
theorem dX8_film_55 : decode cX8_film 55 = .ok (.iconst 0, 1) := by decide +kernel
theorem dX8_film_56 : decode cX8_film 56 = .ok (.istore 7, 2) := by decide +kernel
theorem dX8_film_58 : decode cX8_film 58 = .ok (.iload 7, 2) := by decide +kernel
theorem dX8_film_60 : decode cX8_film 60 = .ok (.iload_n 2, 1) := by decide +kernel
theorem dX8_film_61 : decode cX8_film 61 = .ok (.if_icmp .ge 43, 3) := by decide +kernel
theorem dX8_film_64 : decode cX8_film 64 = .ok (.aload_n 0, 1) := by decide +kernel
theorem dX8_film_65 : decode cX8_film 65 = .ok (.sipush 586, 3) := by decide +kernel
theorem dX8_film_68 : decode cX8_film 68 = .ok (.iconst 0, 1) := by decide +kernel
theorem dX8_film_69 : decode cX8_film 69 = .ok (.invokevirtual 169, 3) := by decide +kernel
theorem dX8_film_72 : decode cX8_film 72 = .ok (.aload_n 0, 1) := by decide +kernel
theorem dX8_film_73 : decode cX8_film 73 = .ok (.getfield 16, 3) := by decide +kernel
theorem dX8_film_76 : decode cX8_film 76 = .ok (.bipush 24, 2) := by decide +kernel
theorem dX8_film_78 : decode cX8_film 78 = .ok (.iload_n 3, 1) := by decide +kernel
theorem dX8_film_79 : decode cX8_film 79 = .ok (.imul, 1) := by decide +kernel
theorem dX8_film_80 : decode cX8_film 80 = .ok (.iload 5, 2) := by decide +kernel
theorem dX8_film_82 : decode cX8_film 82 = .ok (.iadd, 1) := by decide +kernel
theorem dX8_film_83 : decode cX8_film 83 = .ok (.iload 7, 2) := by decide +kernel
theorem dX8_film_85 : decode cX8_film 85 = .ok (.iadd, 1) := by decide +kernel
theorem dX8_film_86 : decode cX8_film 86 = .ok (.aload_n 0, 1) := by decide +kernel
theorem dX8_film_87 : decode cX8_film 87 = .ok (.getfield 7, 3) := by decide +kernel
theorem dX8_film_90 : decode cX8_film 90 = .ok (.sipush 609, 3) := by decide +kernel
theorem dX8_film_93 : decode cX8_film 93 = .ok (.iload_n 1, 1) := by decide +kernel
theorem dX8_film_94 : decode cX8_film 94 = .ok (.iadd, 1) := by decide +kernel
theorem dX8_film_95 : decode cX8_film 95 = .ok (.iaload, 1) := by decide +kernel
theorem dX8_film_96 : decode cX8_film 96 = .ok (.i2l, 1) := by decide +kernel
theorem dX8_film_97 : decode cX8_film 97 = .ok (.lastore, 1) := by decide +kernel
theorem dX8_film_98 : decode cX8_film 98 = .ok (.iinc 7 1, 3) := by decide +kernel
theorem dX8_film_101 : decode cX8_film 101 = .ok (.goto (-43), 3) := by decide +kernel
theorem dX8_film_104 : decode cX8_film 104 = .ok (.iload_n 2, 1) := by decide +kernel
theorem dX8_film_105 : decode cX8_film 105 = .ok (.ireturn, 1) := by decide +kernel
set_option maxRecDepth 20000 in
theorem ggX8_sheet_X8_isLane : GoodIn wsX8_sheet wsX8_isLane := goodIn_r _ [7, 8, 9, 10, 6, 11, 12, 13, 14] (by decide +kernel) (by decide +kernel)
set_option maxRecDepth 20000 in
theorem gX8_sheet_X8_isLane : GoodIn wsX8_sheet (va_wsS RX8 220 yX8_isLane wsX8_isLane) := goodIn_app (goodIn_of _ (by decide +kernel)) ggX8_sheet_X8_isLane
theorem dX8_sheet_0 : decode cX8_sheet 0 = .ok (.iload_n 1, 1) := by decide +kernel
theorem dX8_sheet_1 : decode cX8_sheet 1 = .ok (.iload_n 2, 1) := by decide +kernel
theorem dX8_sheet_2 : decode cX8_sheet 2 = .ok (.invokestatic 220, 3) := by decide +kernel
theorem dX8_sheet_5 : decode cX8_sheet 5 = .ok (.ifCond .eq 9, 3) := by decide +kernel
theorem dX8_sheet_8 : decode cX8_sheet 8 = .ok (.iload_n 3, 1) := by decide +kernel
theorem dX8_sheet_9 : decode cX8_sheet 9 = .ok (.bipush 24, 2) := by decide +kernel
theorem dX8_sheet_11 : decode cX8_sheet 11 = .ok (.if_icmp .le 5, 3) := by decide +kernel
theorem dX8_sheet_14 : decode cX8_sheet 14 = .ok (.iconst (-1), 1) := by decide +kernel
theorem dX8_sheet_15 : decode cX8_sheet 15 = .ok (.ireturn, 1) := by decide +kernel
theorem dX8_sheet_16 : decode cX8_sheet 16 = .ok (.iload_n 3, 1) := by decide +kernel
theorem dX8_sheet_17 : decode cX8_sheet 17 = .ok (.ifCond .ge 6, 3) := by decide +kernel
theorem dX8_sheet_20 : decode cX8_sheet 20 = .ok (.bipush (-14), 2) := by decide +kernel
theorem dX8_sheet_22 : decode cX8_sheet 22 = .ok (.ireturn, 1) := by decide +kernel
theorem dX8_sheet_23 : decode cX8_sheet 23 = .ok (.aload_n 0, 1) := by decide +kernel
theorem dX8_sheet_24 : decode cX8_sheet 24 = .ok (.getfield 23, 3) := by decide +kernel
theorem dX8_sheet_27 : decode cX8_sheet 27 = .ok (.iload_n 1, 1) := by decide +kernel
theorem dX8_sheet_28 : decode cX8_sheet 28 = .ok (.iload_n 2, 1) := by decide +kernel
theorem dX8_sheet_29 : decode cX8_sheet 29 = .ok (.iastore, 1) := by decide +kernel
theorem dX8_sheet_30 : decode cX8_sheet 30 = .ok (.aload_n 0, 1) := by decide +kernel
theorem dX8_sheet_31 : decode cX8_sheet 31 = .ok (.getfield 20, 3) := by decide +kernel
theorem dX8_sheet_34 : decode cX8_sheet 34 = .ok (.iload_n 1, 1) := by decide +kernel
theorem dX8_sheet_35 : decode cX8_sheet 35 = .ok (.iload_n 3, 1) := by decide +kernel
theorem dX8_sheet_36 : decode cX8_sheet 36 = .ok (.iastore, 1) := by decide +kernel
theorem dX8_sheet_37 : decode cX8_sheet 37 = .ok (.iconst 0, 1) := by decide +kernel
theorem dX8_sheet_38 : decode cX8_sheet 38 = .ok (.istore 4, 2) := by decide +kernel
theorem dX8_sheet_40 : decode cX8_sheet 40 = .ok (.iload 4, 2) := by decide +kernel
theorem dX8_sheet_42 : decode cX8_sheet 42 = .ok (.bipush 24, 2) := by decide +kernel
theorem dX8_sheet_44 : decode cX8_sheet 44 = .ok (.if_icmp .ge 22, 3) := by decide +kernel
theorem dX8_sheet_47 : decode cX8_sheet 47 = .ok (.aload_n 0, 1) := by decide +kernel
theorem dX8_sheet_48 : decode cX8_sheet 48 = .ok (.getfield 16, 3) := by decide +kernel
theorem dX8_sheet_51 : decode cX8_sheet 51 = .ok (.bipush 24, 2) := by decide +kernel
theorem dX8_sheet_53 : decode cX8_sheet 53 = .ok (.iload_n 1, 1) := by decide +kernel
theorem dX8_sheet_54 : decode cX8_sheet 54 = .ok (.imul, 1) := by decide +kernel
theorem dX8_sheet_55 : decode cX8_sheet 55 = .ok (.iload 4, 2) := by decide +kernel
theorem dX8_sheet_57 : decode cX8_sheet 57 = .ok (.iadd, 1) := by decide +kernel
theorem dX8_sheet_58 : decode cX8_sheet 58 = .ok (.lconst 0, 1) := by decide +kernel
theorem dX8_sheet_59 : decode cX8_sheet 59 = .ok (.lastore, 1) := by decide +kernel
theorem dX8_sheet_60 : decode cX8_sheet 60 = .ok (.iinc 4 1, 3) := by decide +kernel
theorem dX8_sheet_63 : decode cX8_sheet 63 = .ok (.goto (-23), 3) := by decide +kernel
theorem dX8_sheet_66 : decode cX8_sheet 66 = .ok (.iload_n 3, 1) := by decide +kernel
theorem dX8_sheet_67 : decode cX8_sheet 67 = .ok (.ireturn, 1) := by decide +kernel
set_option maxRecDepth 20000 in
theorem ggX8_drop_X8_isSheet : GoodIn wsX8_drop wsX8_isSheet := goodIn_r _ [5, 6, 7, 8, 4, 9] (by decide +kernel) (by decide +kernel)
set_option maxRecDepth 20000 in
theorem gX8_drop_X8_isSheet : GoodIn wsX8_drop (va_wsS RX8 217 yX8_isSheet wsX8_isSheet) := goodIn_app (goodIn_of _ (by decide +kernel)) ggX8_drop_X8_isSheet
theorem dX8_drop_0 : decode cX8_drop 0 = .ok (.iload_n 1, 1) := by decide +kernel
theorem dX8_drop_1 : decode cX8_drop 1 = .ok (.invokestatic 217, 3) := by decide +kernel
theorem dX8_drop_4 : decode cX8_drop 4 = .ok (.ifCond .ne 5, 3) := by decide +kernel
theorem dX8_drop_7 : decode cX8_drop 7 = .ok (.iconst (-1), 1) := by decide +kernel
theorem dX8_drop_8 : decode cX8_drop 8 = .ok (.ireturn, 1) := by decide +kernel
theorem dX8_drop_9 : decode cX8_drop 9 = .ok (.aload_n 0, 1) := by decide +kernel
theorem dX8_drop_10 : decode cX8_drop 10 = .ok (.getfield 20, 3) := by decide +kernel
theorem dX8_drop_13 : decode cX8_drop 13 = .ok (.iload_n 1, 1) := by decide +kernel
theorem dX8_drop_14 : decode cX8_drop 14 = .ok (.iaload, 1) := by decide +kernel
theorem dX8_drop_15 : decode cX8_drop 15 = .ok (.ifCond .ge 6, 3) := by decide +kernel
theorem dX8_drop_18 : decode cX8_drop 18 = .ok (.bipush (-11), 2) := by decide +kernel
theorem dX8_drop_20 : decode cX8_drop 20 = .ok (.ireturn, 1) := by decide +kernel
theorem dX8_drop_21 : decode cX8_drop 21 = .ok (.aload_n 0, 1) := by decide +kernel
theorem dX8_drop_22 : decode cX8_drop 22 = .ok (.getfield 20, 3) := by decide +kernel
theorem dX8_drop_25 : decode cX8_drop 25 = .ok (.iload_n 1, 1) := by decide +kernel
theorem dX8_drop_26 : decode cX8_drop 26 = .ok (.iaload, 1) := by decide +kernel
theorem dX8_drop_27 : decode cX8_drop 27 = .ok (.istore_n 2, 1) := by decide +kernel
theorem dX8_drop_28 : decode cX8_drop 28 = .ok (.aload_n 0, 1) := by decide +kernel
theorem dX8_drop_29 : decode cX8_drop 29 = .ok (.getfield 20, 3) := by decide +kernel
theorem dX8_drop_32 : decode cX8_drop 32 = .ok (.iload_n 1, 1) := by decide +kernel
theorem dX8_drop_33 : decode cX8_drop 33 = .ok (.iconst (-1), 1) := by decide +kernel
theorem dX8_drop_34 : decode cX8_drop 34 = .ok (.iastore, 1) := by decide +kernel
theorem dX8_drop_35 : decode cX8_drop 35 = .ok (.iload_n 2, 1) := by decide +kernel
theorem dX8_drop_36 : decode cX8_drop 36 = .ok (.ireturn, 1) := by decide +kernel
set_option maxRecDepth 20000 in
theorem ggX8_item_X8_isLane : GoodIn wsX8_item wsX8_isLane := goodIn_r _ [5, 6, 7, 8, 4, 9, 10, 11, 12] (by decide +kernel) (by decide +kernel)
set_option maxRecDepth 20000 in
theorem gX8_item_X8_isLane : GoodIn wsX8_item (va_wsS RX8 220 yX8_isLane wsX8_isLane) := goodIn_app (goodIn_of _ (by decide +kernel)) ggX8_item_X8_isLane
set_option maxRecDepth 20000 in
theorem ggX8_item_X8_against : GoodIn wsX8_item wsX8_against := goodIn_r _ [16, 17, 18, 22, 23, 24, 25, 26, 27, 28, 29, 30, 31, 32, 33, 34, 35, 36] (by decide +kernel) (by decide +kernel)
set_option maxRecDepth 20000 in
theorem gX8_item_X8_against : GoodIn wsX8_item (wsV RX8 225 RX8 yX8_against wsX8_against) := goodIn_app (goodIn_of _ (by decide +kernel)) ggX8_item_X8_against
set_option maxRecDepth 20000 in
theorem ggX8_item_X8_lowest : GoodIn wsX8_item wsX8_lowest := goodIn_r _ [21] (by decide +kernel) (by decide +kernel)
set_option maxRecDepth 20000 in
theorem gX8_item_X8_lowest : GoodIn wsX8_item (va_wsS RX8 234 yX8_lowest wsX8_lowest) := goodIn_app (goodIn_of _ (by decide +kernel)) ggX8_item_X8_lowest
theorem dX8_item_0 : decode cX8_item 0 = .ok (.iload_n 1, 1) := by decide +kernel
theorem dX8_item_1 : decode cX8_item 1 = .ok (.iload_n 2, 1) := by decide +kernel
theorem dX8_item_2 : decode cX8_item 2 = .ok (.invokestatic 220, 3) := by decide +kernel
theorem dX8_item_5 : decode cX8_item 5 = .ok (.ifCond .ne 5, 3) := by decide +kernel
theorem dX8_item_8 : decode cX8_item 8 = .ok (.iconst (-1), 1) := by decide +kernel
theorem dX8_item_9 : decode cX8_item 9 = .ok (.ireturn, 1) := by decide +kernel
theorem dX8_item_10 : decode cX8_item 10 = .ok (.aload_n 0, 1) := by decide +kernel
theorem dX8_item_11 : decode cX8_item 11 = .ok (.iload_n 1, 1) := by decide +kernel
theorem dX8_item_12 : decode cX8_item 12 = .ok (.iload_n 2, 1) := by decide +kernel
theorem dX8_item_13 : decode cX8_item 13 = .ok (.iload_n 3, 1) := by decide +kernel
theorem dX8_item_14 : decode cX8_item 14 = .ok (.iconst 1, 1) := by decide +kernel
theorem dX8_item_15 : decode cX8_item 15 = .ok (.invokevirtual 225, 3) := by decide +kernel
theorem dX8_item_18 : decode cX8_item 18 = .ok (.istore 6, 2) := by decide +kernel
theorem dX8_item_20 : decode cX8_item 20 = .ok (.iload 6, 2) := by decide +kernel
theorem dX8_item_22 : decode cX8_item 22 = .ok (.ifCond .ge 6, 3) := by decide +kernel
theorem dX8_item_25 : decode cX8_item 25 = .ok (.iload 6, 2) := by decide +kernel
theorem dX8_item_27 : decode cX8_item 27 = .ok (.ireturn, 1) := by decide +kernel
theorem dX8_item_28 : decode cX8_item 28 = .ok (.aload_n 0, 1) := by decide +kernel
theorem dX8_item_29 : decode cX8_item 29 = .ok (.getfield 16, 3) := by decide +kernel
theorem dX8_item_32 : decode cX8_item 32 = .ok (.bipush 24, 2) := by decide +kernel
theorem dX8_item_34 : decode cX8_item 34 = .ok (.iload_n 1, 1) := by decide +kernel
theorem dX8_item_35 : decode cX8_item 35 = .ok (.imul, 1) := by decide +kernel
theorem dX8_item_36 : decode cX8_item 36 = .ok (.iload_n 3, 1) := by decide +kernel
theorem dX8_item_37 : decode cX8_item 37 = .ok (.iadd, 1) := by decide +kernel
theorem dX8_item_38 : decode cX8_item 38 = .ok (.iload_n 2, 1) := by decide +kernel
theorem dX8_item_39 : decode cX8_item 39 = .ok (.lload 4, 2) := by decide +kernel
theorem dX8_item_41 : decode cX8_item 41 = .ok (.invokestatic 234, 3) := by decide +kernel
theorem dX8_item_44 : decode cX8_item 44 = .ok (.lastore, 1) := by decide +kernel
theorem dX8_item_45 : decode cX8_item 45 = .ok (.iconst 1, 1) := by decide +kernel
theorem dX8_item_46 : decode cX8_item 46 = .ok (.ireturn, 1) := by decide +kernel
set_option maxRecDepth 20000 in
theorem ggX8_copy_X8_isSheet : GoodIn wsX8_copy wsX8_isSheet := goodIn_r _ [8, 9, 10, 11, 7, 12] (by decide +kernel) (by decide +kernel)
set_option maxRecDepth 20000 in
theorem gX8_copy_X8_isSheet : GoodIn wsX8_copy (va_wsS RX8 217 yX8_isSheet wsX8_isSheet) := goodIn_app (goodIn_of _ (by decide +kernel)) ggX8_copy_X8_isSheet
set_option maxRecDepth 20000 in
theorem ggX8_copy_X8_against : GoodIn wsX8_copy wsX8_against := goodIn_r _ [16, 1, 2, 17, 18, 19, 20, 21, 22, 23, 24, 25, 26, 27, 28, 29, 30, 31] (by decide +kernel) (by decide +kernel)
set_option maxRecDepth 20000 in
theorem gX8_copy_X8_against : GoodIn wsX8_copy (wsV RX8 225 RX8 yX8_against wsX8_against) := goodIn_app (goodIn_of _ (by decide +kernel)) ggX8_copy_X8_against
theorem dX8_copy_0 : decode cX8_copy 0 = .ok (.iload_n 1, 1) := by decide +kernel
theorem dX8_copy_1 : decode cX8_copy 1 = .ok (.invokestatic 217, 3) := by decide +kernel
theorem dX8_copy_4 : decode cX8_copy 4 = .ok (.ifCond .eq 10, 3) := by decide +kernel
theorem dX8_copy_7 : decode cX8_copy 7 = .ok (.iload_n 3, 1) := by decide +kernel
theorem dX8_copy_8 : decode cX8_copy 8 = .ok (.invokestatic 217, 3) := by decide +kernel
theorem dX8_copy_11 : decode cX8_copy 11 = .ok (.ifCond .ne 5, 3) := by decide +kernel
theorem dX8_copy_14 : decode cX8_copy 14 = .ok (.iconst (-1), 1) := by decide +kernel
theorem dX8_copy_15 : decode cX8_copy 15 = .ok (.ireturn, 1) := by decide +kernel
theorem dX8_copy_16 : decode cX8_copy 16 = .ok (.aload_n 0, 1) := by decide +kernel
theorem dX8_copy_17 : decode cX8_copy 17 = .ok (.getfield 20, 3) := by decide +kernel
theorem dX8_copy_20 : decode cX8_copy 20 = .ok (.iload_n 1, 1) := by decide +kernel
theorem dX8_copy_21 : decode cX8_copy 21 = .ok (.iaload, 1) := by decide +kernel
theorem dX8_copy_22 : decode cX8_copy 22 = .ok (.ifCond .lt 12, 3) := by decide +kernel
theorem dX8_copy_25 : decode cX8_copy 25 = .ok (.aload_n 0, 1) := by decide +kernel
theorem dX8_copy_26 : decode cX8_copy 26 = .ok (.getfield 20, 3) := by decide +kernel
theorem dX8_copy_29 : decode cX8_copy 29 = .ok (.iload_n 3, 1) := by decide +kernel
theorem dX8_copy_30 : decode cX8_copy 30 = .ok (.iaload, 1) := by decide +kernel
theorem dX8_copy_31 : decode cX8_copy 31 = .ok (.ifCond .ge 6, 3) := by decide +kernel
theorem dX8_copy_34 : decode cX8_copy 34 = .ok (.bipush (-11), 2) := by decide +kernel
theorem dX8_copy_36 : decode cX8_copy 36 = .ok (.ireturn, 1) := by decide +kernel
theorem dX8_copy_37 : decode cX8_copy 37 = .ok (.aload_n 0, 1) := by decide +kernel
theorem dX8_copy_38 : decode cX8_copy 38 = .ok (.getfield 23, 3) := by decide +kernel
theorem dX8_copy_41 : decode cX8_copy 41 = .ok (.iload_n 1, 1) := by decide +kernel
theorem dX8_copy_42 : decode cX8_copy 42 = .ok (.iaload, 1) := by decide +kernel
theorem dX8_copy_43 : decode cX8_copy 43 = .ok (.aload_n 0, 1) := by decide +kernel
theorem dX8_copy_44 : decode cX8_copy 44 = .ok (.getfield 23, 3) := by decide +kernel
theorem dX8_copy_47 : decode cX8_copy 47 = .ok (.iload_n 3, 1) := by decide +kernel
theorem dX8_copy_48 : decode cX8_copy 48 = .ok (.iaload, 1) := by decide +kernel
theorem dX8_copy_49 : decode cX8_copy 49 = .ok (.if_icmp .eq 6, 3) := by decide +kernel
theorem dX8_copy_52 : decode cX8_copy 52 = .ok (.bipush (-12), 2) := by decide +kernel
theorem dX8_copy_54 : decode cX8_copy 54 = .ok (.ireturn, 1) := by decide +kernel
theorem dX8_copy_55 : decode cX8_copy 55 = .ok (.aload_n 0, 1) := by decide +kernel
theorem dX8_copy_56 : decode cX8_copy 56 = .ok (.iload_n 1, 1) := by decide +kernel
theorem dX8_copy_57 : decode cX8_copy 57 = .ok (.aload_n 0, 1) := by decide +kernel
theorem dX8_copy_58 : decode cX8_copy 58 = .ok (.getfield 23, 3) := by decide +kernel
theorem dX8_copy_61 : decode cX8_copy 61 = .ok (.iload_n 1, 1) := by decide +kernel
theorem dX8_copy_62 : decode cX8_copy 62 = .ok (.iaload, 1) := by decide +kernel
theorem dX8_copy_63 : decode cX8_copy 63 = .ok (.iload_n 2, 1) := by decide +kernel
theorem dX8_copy_64 : decode cX8_copy 64 = .ok (.iload 5, 2) := by decide +kernel
theorem dX8_copy_66 : decode cX8_copy 66 = .ok (.invokevirtual 225, 3) := by decide +kernel
theorem dX8_copy_69 : decode cX8_copy 69 = .ok (.ifCond .lt 21, 3) := by decide +kernel
theorem dX8_copy_72 : decode cX8_copy 72 = .ok (.aload_n 0, 1) := by decide +kernel
theorem dX8_copy_73 : decode cX8_copy 73 = .ok (.iload_n 3, 1) := by decide +kernel
theorem dX8_copy_74 : decode cX8_copy 74 = .ok (.aload_n 0, 1) := by decide +kernel
theorem dX8_copy_75 : decode cX8_copy 75 = .ok (.getfield 23, 3) := by decide +kernel
theorem dX8_copy_78 : decode cX8_copy 78 = .ok (.iload_n 3, 1) := by decide +kernel
theorem dX8_copy_79 : decode cX8_copy 79 = .ok (.iaload, 1) := by decide +kernel
theorem dX8_copy_80 : decode cX8_copy 80 = .ok (.iload 4, 2) := by decide +kernel
theorem dX8_copy_82 : decode cX8_copy 82 = .ok (.iload 5, 2) := by decide +kernel
theorem dX8_copy_84 : decode cX8_copy 84 = .ok (.invokevirtual 225, 3) := by decide +kernel
theorem dX8_copy_87 : decode cX8_copy 87 = .ok (.ifCond .ge 6, 3) := by decide +kernel
theorem dX8_copy_90 : decode cX8_copy 90 = .ok (.bipush (-13), 2) := by decide +kernel
theorem dX8_copy_92 : decode cX8_copy 92 = .ok (.ireturn, 1) := by decide +kernel
theorem dX8_copy_93 : decode cX8_copy 93 = .ok (.iconst 0, 1) := by decide +kernel
theorem dX8_copy_94 : decode cX8_copy 94 = .ok (.istore 6, 2) := by decide +kernel
theorem dX8_copy_96 : decode cX8_copy 96 = .ok (.iload 6, 2) := by decide +kernel
theorem dX8_copy_98 : decode cX8_copy 98 = .ok (.iload 5, 2) := by decide +kernel
theorem dX8_copy_100 : decode cX8_copy 100 = .ok (.if_icmp .ge 30, 3) := by decide +kernel
theorem dX8_copy_103 : decode cX8_copy 103 = .ok (.aload_n 0, 1) := by decide +kernel
theorem dX8_copy_104 : decode cX8_copy 104 = .ok (.getfield 41, 3) := by decide +kernel
theorem dX8_copy_107 : decode cX8_copy 107 = .ok (.iload 6, 2) := by decide +kernel
theorem dX8_copy_109 : decode cX8_copy 109 = .ok (.aload_n 0, 1) := by decide +kernel
theorem dX8_copy_110 : decode cX8_copy 110 = .ok (.getfield 16, 3) := by decide +kernel
theorem dX8_copy_113 : decode cX8_copy 113 = .ok (.bipush 24, 2) := by decide +kernel
theorem dX8_copy_115 : decode cX8_copy 115 = .ok (.iload_n 1, 1) := by decide +kernel
theorem dX8_copy_116 : decode cX8_copy 116 = .ok (.imul, 1) := by decide +kernel
theorem dX8_copy_117 : decode cX8_copy 117 = .ok (.iload_n 2, 1) := by decide +kernel
theorem dX8_copy_118 : decode cX8_copy 118 = .ok (.iadd, 1) := by decide +kernel
theorem dX8_copy_119 : decode cX8_copy 119 = .ok (.iload 6, 2) := by decide +kernel
theorem dX8_copy_121 : decode cX8_copy 121 = .ok (.iadd, 1) := by decide +kernel
theorem dX8_copy_122 : decode cX8_copy 122 = .ok (.laload, 1) := by decide +kernel
theorem dX8_copy_123 : decode cX8_copy 123 = .ok (.lastore, 1) := by decide +kernel
theorem dX8_copy_124 : decode cX8_copy 124 = .ok (.iinc 6 1, 3) := by decide +kernel
theorem dX8_copy_127 : decode cX8_copy 127 = .ok (.goto (-31), 3) := by decide +kernel
theorem dX8_copy_130 : decode cX8_copy 130 = .ok (.iconst 0, 1) := by decide +kernel
theorem dX8_copy_131 : decode cX8_copy 131 = .ok (.istore 6, 2) := by decide +kernel
theorem dX8_copy_133 : decode cX8_copy 133 = .ok (.iload 6, 2) := by decide +kernel
theorem dX8_copy_135 : decode cX8_copy 135 = .ok (.iload 5, 2) := by decide +kernel
theorem dX8_copy_137 : decode cX8_copy 137 = .ok (.if_icmp .ge 31, 3) := by decide +kernel
theorem dX8_copy_140 : decode cX8_copy 140 = .ok (.aload_n 0, 1) := by decide +kernel
theorem dX8_copy_141 : decode cX8_copy 141 = .ok (.getfield 16, 3) := by decide +kernel
theorem dX8_copy_144 : decode cX8_copy 144 = .ok (.bipush 24, 2) := by decide +kernel
theorem dX8_copy_146 : decode cX8_copy 146 = .ok (.iload_n 3, 1) := by decide +kernel
theorem dX8_copy_147 : decode cX8_copy 147 = .ok (.imul, 1) := by decide +kernel
theorem dX8_copy_148 : decode cX8_copy 148 = .ok (.iload 4, 2) := by decide +kernel
theorem dX8_copy_150 : decode cX8_copy 150 = .ok (.iadd, 1) := by decide +kernel
theorem dX8_copy_151 : decode cX8_copy 151 = .ok (.iload 6, 2) := by decide +kernel
theorem dX8_copy_153 : decode cX8_copy 153 = .ok (.iadd, 1) := by decide +kernel
theorem dX8_copy_154 : decode cX8_copy 154 = .ok (.aload_n 0, 1) := by decide +kernel
theorem dX8_copy_155 : decode cX8_copy 155 = .ok (.getfield 41, 3) := by decide +kernel
theorem dX8_copy_158 : decode cX8_copy 158 = .ok (.iload 6, 2) := by decide +kernel
theorem dX8_copy_160 : decode cX8_copy 160 = .ok (.laload, 1) := by decide +kernel
theorem dX8_copy_161 : decode cX8_copy 161 = .ok (.lastore, 1) := by decide +kernel
theorem dX8_copy_162 : decode cX8_copy 162 = .ok (.iinc 6 1, 3) := by decide +kernel
theorem dX8_copy_165 : decode cX8_copy 165 = .ok (.goto (-32), 3) := by decide +kernel
theorem dX8_copy_168 : decode cX8_copy 168 = .ok (.iload 5, 2) := by decide +kernel
theorem dX8_copy_170 : decode cX8_copy 170 = .ok (.ireturn, 1) := by decide +kernel
theorem dJ11_isValidCodePoint_9a6ad_0 : decode cJ11_isValidCodePoint_9a6ad 0 = .ok (.iload_n 0, 1) := by decide +kernel
theorem dJ11_isValidCodePoint_9a6ad_1 : decode cJ11_isValidCodePoint_9a6ad 1 = .ok (.bipush 16, 2) := by decide +kernel
theorem dJ11_isValidCodePoint_9a6ad_3 : decode cJ11_isValidCodePoint_9a6ad 3 = .ok (.iushr, 1) := by decide +kernel
theorem dJ11_isValidCodePoint_9a6ad_4 : decode cJ11_isValidCodePoint_9a6ad 4 = .ok (.istore_n 1, 1) := by decide +kernel
theorem dJ11_isValidCodePoint_9a6ad_5 : decode cJ11_isValidCodePoint_9a6ad 5 = .ok (.iload_n 1, 1) := by decide +kernel
theorem dJ11_isValidCodePoint_9a6ad_6 : decode cJ11_isValidCodePoint_9a6ad 6 = .ok (.bipush 17, 2) := by decide +kernel
theorem dJ11_isValidCodePoint_9a6ad_8 : decode cJ11_isValidCodePoint_9a6ad 8 = .ok (.if_icmp .ge 7, 3) := by decide +kernel
theorem dJ11_isValidCodePoint_9a6ad_11 : decode cJ11_isValidCodePoint_9a6ad 11 = .ok (.iconst 1, 1) := by decide +kernel
theorem dJ11_isValidCodePoint_9a6ad_12 : decode cJ11_isValidCodePoint_9a6ad 12 = .ok (.goto 4, 3) := by decide +kernel
theorem dJ11_isValidCodePoint_9a6ad_15 : decode cJ11_isValidCodePoint_9a6ad 15 = .ok (.iconst 0, 1) := by decide +kernel
theorem dJ11_isValidCodePoint_9a6ad_16 : decode cJ11_isValidCodePoint_9a6ad 16 = .ok (.ireturn, 1) := by decide +kernel
theorem dJ11_highSurrogate_5068e_0 : decode cJ11_highSurrogate_5068e 0 = .ok (.iload_n 0, 1) := by decide +kernel
theorem dJ11_highSurrogate_5068e_1 : decode cJ11_highSurrogate_5068e 1 = .ok (.bipush 10, 2) := by decide +kernel
theorem dJ11_highSurrogate_5068e_3 : decode cJ11_highSurrogate_5068e 3 = .ok (.iushr, 1) := by decide +kernel
theorem dJ11_highSurrogate_5068e_4 : decode cJ11_highSurrogate_5068e 4 = .ok (.ldc 110, 2) := by decide +kernel
theorem dJ11_highSurrogate_5068e_6 : decode cJ11_highSurrogate_5068e 6 = .ok (.iadd, 1) := by decide +kernel
theorem dJ11_highSurrogate_5068e_7 : decode cJ11_highSurrogate_5068e 7 = .ok (.i2c, 1) := by decide +kernel
theorem dJ11_highSurrogate_5068e_8 : decode cJ11_highSurrogate_5068e 8 = .ok (.ireturn, 1) := by decide +kernel
theorem dJ11_lowSurrogate_5068e_0 : decode cJ11_lowSurrogate_5068e 0 = .ok (.iload_n 0, 1) := by decide +kernel
theorem dJ11_lowSurrogate_5068e_1 : decode cJ11_lowSurrogate_5068e 1 = .ok (.sipush 1023, 3) := by decide +kernel
theorem dJ11_lowSurrogate_5068e_4 : decode cJ11_lowSurrogate_5068e 4 = .ok (.iand, 1) := by decide +kernel
theorem dJ11_lowSurrogate_5068e_5 : decode cJ11_lowSurrogate_5068e 5 = .ok (.ldc 76, 2) := by decide +kernel
theorem dJ11_lowSurrogate_5068e_7 : decode cJ11_lowSurrogate_5068e 7 = .ok (.iadd, 1) := by decide +kernel
theorem dJ11_lowSurrogate_5068e_8 : decode cJ11_lowSurrogate_5068e 8 = .ok (.i2c, 1) := by decide +kernel
theorem dJ11_lowSurrogate_5068e_9 : decode cJ11_lowSurrogate_5068e 9 = .ok (.ireturn, 1) := by decide +kernel
theorem dJ6_bitCount_0f7a4_0 : decode cJ6_bitCount_0f7a4 0 = .ok (.iload_n 0, 1) := by decide +kernel
theorem dJ6_bitCount_0f7a4_1 : decode cJ6_bitCount_0f7a4 1 = .ok (.iload_n 0, 1) := by decide +kernel
theorem dJ6_bitCount_0f7a4_2 : decode cJ6_bitCount_0f7a4 2 = .ok (.iconst 1, 1) := by decide +kernel
theorem dJ6_bitCount_0f7a4_3 : decode cJ6_bitCount_0f7a4 3 = .ok (.iushr, 1) := by decide +kernel
theorem dJ6_bitCount_0f7a4_4 : decode cJ6_bitCount_0f7a4 4 = .ok (.ldc_w 265, 3) := by decide +kernel
theorem dJ6_bitCount_0f7a4_7 : decode cJ6_bitCount_0f7a4 7 = .ok (.iand, 1) := by decide +kernel
theorem dJ6_bitCount_0f7a4_8 : decode cJ6_bitCount_0f7a4 8 = .ok (.isub, 1) := by decide +kernel
theorem dJ6_bitCount_0f7a4_9 : decode cJ6_bitCount_0f7a4 9 = .ok (.istore_n 0, 1) := by decide +kernel
theorem dJ6_bitCount_0f7a4_10 : decode cJ6_bitCount_0f7a4 10 = .ok (.iload_n 0, 1) := by decide +kernel
theorem dJ6_bitCount_0f7a4_11 : decode cJ6_bitCount_0f7a4 11 = .ok (.ldc_w 266, 3) := by decide +kernel
theorem dJ6_bitCount_0f7a4_14 : decode cJ6_bitCount_0f7a4 14 = .ok (.iand, 1) := by decide +kernel
theorem dJ6_bitCount_0f7a4_15 : decode cJ6_bitCount_0f7a4 15 = .ok (.iload_n 0, 1) := by decide +kernel
theorem dJ6_bitCount_0f7a4_16 : decode cJ6_bitCount_0f7a4 16 = .ok (.iconst 2, 1) := by decide +kernel
theorem dJ6_bitCount_0f7a4_17 : decode cJ6_bitCount_0f7a4 17 = .ok (.iushr, 1) := by decide +kernel
theorem dJ6_bitCount_0f7a4_18 : decode cJ6_bitCount_0f7a4 18 = .ok (.ldc_w 266, 3) := by decide +kernel
theorem dJ6_bitCount_0f7a4_21 : decode cJ6_bitCount_0f7a4 21 = .ok (.iand, 1) := by decide +kernel
theorem dJ6_bitCount_0f7a4_22 : decode cJ6_bitCount_0f7a4 22 = .ok (.iadd, 1) := by decide +kernel
theorem dJ6_bitCount_0f7a4_23 : decode cJ6_bitCount_0f7a4 23 = .ok (.istore_n 0, 1) := by decide +kernel
theorem dJ6_bitCount_0f7a4_24 : decode cJ6_bitCount_0f7a4 24 = .ok (.iload_n 0, 1) := by decide +kernel
theorem dJ6_bitCount_0f7a4_25 : decode cJ6_bitCount_0f7a4 25 = .ok (.iload_n 0, 1) := by decide +kernel
theorem dJ6_bitCount_0f7a4_26 : decode cJ6_bitCount_0f7a4 26 = .ok (.iconst 4, 1) := by decide +kernel
theorem dJ6_bitCount_0f7a4_27 : decode cJ6_bitCount_0f7a4 27 = .ok (.iushr, 1) := by decide +kernel
theorem dJ6_bitCount_0f7a4_28 : decode cJ6_bitCount_0f7a4 28 = .ok (.iadd, 1) := by decide +kernel
theorem dJ6_bitCount_0f7a4_29 : decode cJ6_bitCount_0f7a4 29 = .ok (.ldc_w 267, 3) := by decide +kernel
theorem dJ6_bitCount_0f7a4_32 : decode cJ6_bitCount_0f7a4 32 = .ok (.iand, 1) := by decide +kernel
theorem dJ6_bitCount_0f7a4_33 : decode cJ6_bitCount_0f7a4 33 = .ok (.istore_n 0, 1) := by decide +kernel
theorem dJ6_bitCount_0f7a4_34 : decode cJ6_bitCount_0f7a4 34 = .ok (.iload_n 0, 1) := by decide +kernel
theorem dJ6_bitCount_0f7a4_35 : decode cJ6_bitCount_0f7a4 35 = .ok (.iload_n 0, 1) := by decide +kernel
theorem dJ6_bitCount_0f7a4_36 : decode cJ6_bitCount_0f7a4 36 = .ok (.bipush 8, 2) := by decide +kernel
theorem dJ6_bitCount_0f7a4_38 : decode cJ6_bitCount_0f7a4 38 = .ok (.iushr, 1) := by decide +kernel
theorem dJ6_bitCount_0f7a4_39 : decode cJ6_bitCount_0f7a4 39 = .ok (.iadd, 1) := by decide +kernel
theorem dJ6_bitCount_0f7a4_40 : decode cJ6_bitCount_0f7a4 40 = .ok (.istore_n 0, 1) := by decide +kernel
theorem dJ6_bitCount_0f7a4_41 : decode cJ6_bitCount_0f7a4 41 = .ok (.iload_n 0, 1) := by decide +kernel
theorem dJ6_bitCount_0f7a4_42 : decode cJ6_bitCount_0f7a4 42 = .ok (.iload_n 0, 1) := by decide +kernel
theorem dJ6_bitCount_0f7a4_43 : decode cJ6_bitCount_0f7a4 43 = .ok (.bipush 16, 2) := by decide +kernel
theorem dJ6_bitCount_0f7a4_45 : decode cJ6_bitCount_0f7a4 45 = .ok (.iushr, 1) := by decide +kernel
theorem dJ6_bitCount_0f7a4_46 : decode cJ6_bitCount_0f7a4 46 = .ok (.iadd, 1) := by decide +kernel
theorem dJ6_bitCount_0f7a4_47 : decode cJ6_bitCount_0f7a4 47 = .ok (.istore_n 0, 1) := by decide +kernel
theorem dJ6_bitCount_0f7a4_48 : decode cJ6_bitCount_0f7a4 48 = .ok (.iload_n 0, 1) := by decide +kernel
theorem dJ6_bitCount_0f7a4_49 : decode cJ6_bitCount_0f7a4 49 = .ok (.bipush 63, 2) := by decide +kernel
theorem dJ6_bitCount_0f7a4_51 : decode cJ6_bitCount_0f7a4 51 = .ok (.iand, 1) := by decide +kernel
theorem dJ6_bitCount_0f7a4_52 : decode cJ6_bitCount_0f7a4 52 = .ok (.ireturn, 1) := by decide +kernel
theorem dJ9_max_7cf53_0 : decode cJ9_max_7cf53 0 = .ok (.iload_n 0, 1) := by decide +kernel
theorem dJ9_max_7cf53_1 : decode cJ9_max_7cf53 1 = .ok (.iload_n 1, 1) := by decide +kernel
theorem dJ9_max_7cf53_2 : decode cJ9_max_7cf53 2 = .ok (.if_icmp .lt 7, 3) := by decide +kernel
theorem dJ9_max_7cf53_5 : decode cJ9_max_7cf53 5 = .ok (.iload_n 0, 1) := by decide +kernel
theorem dJ9_max_7cf53_6 : decode cJ9_max_7cf53 6 = .ok (.goto 4, 3) := by decide +kernel
theorem dJ9_max_7cf53_9 : decode cJ9_max_7cf53 9 = .ok (.iload_n 1, 1) := by decide +kernel
theorem dJ9_max_7cf53_10 : decode cJ9_max_7cf53 10 = .ok (.ireturn, 1) := by decide +kernel
theorem dJ9_min_7cf53_0 : decode cJ9_min_7cf53 0 = .ok (.iload_n 0, 1) := by decide +kernel
theorem dJ9_min_7cf53_1 : decode cJ9_min_7cf53 1 = .ok (.iload_n 1, 1) := by decide +kernel
theorem dJ9_min_7cf53_2 : decode cJ9_min_7cf53 2 = .ok (.if_icmp .gt 7, 3) := by decide +kernel
theorem dJ9_min_7cf53_5 : decode cJ9_min_7cf53 5 = .ok (.iload_n 0, 1) := by decide +kernel
theorem dJ9_min_7cf53_6 : decode cJ9_min_7cf53 6 = .ok (.goto 4, 3) := by decide +kernel
theorem dJ9_min_7cf53_9 : decode cJ9_min_7cf53 9 = .ok (.iload_n 1, 1) := by decide +kernel
theorem dJ9_min_7cf53_10 : decode cJ9_min_7cf53 10 = .ok (.ireturn, 1) := by decide +kernel
set_option maxRecDepth 20000 in
theorem ggJ0_length_8abf5_J0_coder_7d493 : GoodIn wsJ0_length_8abf5 wsJ0_coder_7d493 := goodIn_r _ [6, 7, 8] (by decide +kernel) (by decide +kernel)
set_option maxRecDepth 20000 in
theorem gJ0_length_8abf5_J0_coder_7d493 : GoodIn wsJ0_length_8abf5 (wsV RJ0 335 RJ0 yJ0_coder_7d493 wsJ0_coder_7d493) := goodIn_app (goodIn_of _ (by decide +kernel)) ggJ0_length_8abf5_J0_coder_7d493
theorem dJ0_length_8abf5_0 : decode cJ0_length_8abf5 0 = .ok (.aload_n 0, 1) := by decide +kernel
theorem dJ0_length_8abf5_1 : decode cJ0_length_8abf5 1 = .ok (.getfield 9, 3) := by decide +kernel
theorem dJ0_length_8abf5_4 : decode cJ0_length_8abf5 4 = .ok (.arraylength, 1) := by decide +kernel
theorem dJ0_length_8abf5_5 : decode cJ0_length_8abf5 5 = .ok (.aload_n 0, 1) := by decide +kernel
theorem dJ0_length_8abf5_6 : decode cJ0_length_8abf5 6 = .ok (.invokevirtual 335, 3) := by decide +kernel
theorem dJ0_length_8abf5_9 : decode cJ0_length_8abf5 9 = .ok (.ishr, 1) := by decide +kernel
theorem dJ0_length_8abf5_10 : decode cJ0_length_8abf5 10 = .ok (.ireturn, 1) := by decide +kernel
set_option maxRecDepth 20000 in
theorem ggJ0_indexOf_0f7a4_J0_indexOf_7cf53 : GoodIn wsJ0_indexOf_0f7a4 wsJ0_indexOf_7cf53 := goodIn_r _ [5, 6, 7, 8, 9, 4, 10, 11, 12, 13, 14, 15, 16, 17, 18, 19, 20, 21, 22, 23, 24, 25, 26, 27, 28, 29, 30, 31, 32, 33, 34, 35, 36, 37, 38, 39, 40, 41, 42, 43, 44, 45, 46, 47, 48, 49, 50, 51, 52, 53, 54, 55, 56, 57, 58, 59, 60, 61, 62, 63, 64, 65, 66, 67, 68, 69, 70, 71, 72, 73, 74, 75, 76, 77, 78, 79, 80, 81, 82, 83, 84, 85] (by decide +kernel) (by decide +kernel)
set_option maxRecDepth 20000 in
theorem gJ0_indexOf_0f7a4_J0_indexOf_7cf53 : GoodIn wsJ0_indexOf_0f7a4 (wsV RJ0 633 RJ0 yJ0_indexOf_7cf53 wsJ0_indexOf_7cf53) := goodIn_app (goodIn_of _ (by decide +kernel)) ggJ0_indexOf_0f7a4_J0_indexOf_7cf53
theorem dJ0_indexOf_0f7a4_0 : decode cJ0_indexOf_0f7a4 0 = .ok (.aload_n 0, 1) := by decide +kernel
theorem dJ0_indexOf_0f7a4_1 : decode cJ0_indexOf_0f7a4 1 = .ok (.iload_n 1, 1) := by decide +kernel
theorem dJ0_indexOf_0f7a4_2 : decode cJ0_indexOf_0f7a4 2 = .ok (.iconst 0, 1) := by decide +kernel
theorem dJ0_indexOf_0f7a4_3 : decode cJ0_indexOf_0f7a4 3 = .ok (.invokevirtual 633, 3) := by decide +kernel
theorem dJ0_indexOf_0f7a4_6 : decode cJ0_indexOf_0f7a4 6 = .ok (.ireturn, 1) := by decide +kernel
set_option maxRecDepth 20000 in
theorem ggJ0_indexOf_7cf53_J0_isLatin1_aae02 : GoodIn wsJ0_indexOf_7cf53 wsJ0_isLatin1_aae02 := goodIn_r _ [6, 7, 8] (by decide +kernel) (by decide +kernel)
set_option maxRecDepth 20000 in
theorem gJ0_indexOf_7cf53_J0_isLatin1_aae02 : GoodIn wsJ0_indexOf_7cf53 (wsV RJ0 492 RJ0 yJ0_isLatin1_aae02 wsJ0_isLatin1_aae02) := goodIn_app (goodIn_of _ (by decide +kernel)) ggJ0_indexOf_7cf53_J0_isLatin1_aae02
set_option maxRecDepth 20000 in
theorem ggJ0_indexOf_7cf53_J0_length_8abf5 : GoodIn wsJ0_indexOf_7cf53 wsJ0_length_8abf5 := goodIn_r _ [12, 1, 13, 14, 15, 5, 16, 7, 8] (by decide +kernel) (by decide +kernel)
set_option maxRecDepth 20000 in
theorem gJ0_indexOf_7cf53_J0_length_8abf5 : GoodIn wsJ0_indexOf_7cf53 (wsV RJ0 505 RJ0 yJ0_length_8abf5 wsJ0_length_8abf5) := goodIn_app (goodIn_of _ (by decide +kernel)) ggJ0_indexOf_7cf53_J0_length_8abf5
set_option maxRecDepth 20000 in
theorem ggJ0_indexOf_7cf53_J1_indexOf_4cfef : GoodIn wsJ0_indexOf_7cf53 wsJ1_indexOf_4cfef := goodIn_r _ [20, 21, 22, 23, 24, 25, 26, 27, 28, 29, 19, 30, 31, 32, 33] (by decide +kernel) (by decide +kernel)
set_option maxRecDepth 20000 in
theorem gJ0_indexOf_7cf53_J1_indexOf_4cfef : GoodIn wsJ0_indexOf_7cf53 (va_wsS RJ0 637 yJ1_indexOf_4cfef wsJ1_indexOf_4cfef) := goodIn_app (goodIn_of _ (by decide +kernel)) ggJ0_indexOf_7cf53_J1_indexOf_4cfef
set_option maxRecDepth 20000 in
theorem ggJ0_indexOf_7cf53_J2_indexOf_4cfef : GoodIn wsJ0_indexOf_7cf53 wsJ2_indexOf_4cfef := goodIn_r _ [37, 38, 22, 23, 24, 39, 26, 27, 40, 41, 42, 36, 43, 44, 45, 46, 47, 48, 49, 50, 51, 5, 52, 53, 54, 55, 56, 57, 58, 59, 60, 61, 62, 63, 64, 65, 66, 67, 68, 69, 70, 71, 72, 73, 74, 75, 76, 77, 78, 79, 80, 81] (by decide +kernel) (by decide +kernel)
set_option maxRecDepth 20000 in
theorem gJ0_indexOf_7cf53_J2_indexOf_4cfef : GoodIn wsJ0_indexOf_7cf53 (va_wsS RJ0 640 yJ2_indexOf_4cfef wsJ2_indexOf_4cfef) := goodIn_app (goodIn_of _ (by decide +kernel)) ggJ0_indexOf_7cf53_J2_indexOf_4cfef
theorem dJ0_indexOf_7cf53_0 : decode cJ0_indexOf_7cf53 0 = .ok (.aload_n 0, 1) := by decide +kernel
theorem dJ0_indexOf_7cf53_1 : decode cJ0_indexOf_7cf53 1 = .ok (.invokevirtual 492, 3) := by decide +kernel
theorem dJ0_indexOf_7cf53_4 : decode cJ0_indexOf_7cf53 4 = .ok (.ifCond .eq 19, 3) := by decide +kernel
theorem dJ0_indexOf_7cf53_7 : decode cJ0_indexOf_7cf53 7 = .ok (.aload_n 0, 1) := by decide +kernel
theorem dJ0_indexOf_7cf53_8 : decode cJ0_indexOf_7cf53 8 = .ok (.getfield 9, 3) := by decide +kernel
theorem dJ0_indexOf_7cf53_11 : decode cJ0_indexOf_7cf53 11 = .ok (.iload_n 1, 1) := by decide +kernel
theorem dJ0_indexOf_7cf53_12 : decode cJ0_indexOf_7cf53 12 = .ok (.iload_n 2, 1) := by decide +kernel
theorem dJ0_indexOf_7cf53_13 : decode cJ0_indexOf_7cf53 13 = .ok (.aload_n 0, 1) := by decide +kernel
theorem dJ0_indexOf_7cf53_14 : decode cJ0_indexOf_7cf53 14 = .ok (.invokevirtual 505, 3) := by decide +kernel
theorem dJ0_indexOf_7cf53_17 : decode cJ0_indexOf_7cf53 17 = .ok (.invokestatic 637, 3) := by decide +kernel
theorem dJ0_indexOf_7cf53_20 : decode cJ0_indexOf_7cf53 20 = .ok (.goto 16, 3) := by decide +kernel
theorem dJ0_indexOf_7cf53_23 : decode cJ0_indexOf_7cf53 23 = .ok (.aload_n 0, 1) := by decide +kernel
theorem dJ0_indexOf_7cf53_24 : decode cJ0_indexOf_7cf53 24 = .ok (.getfield 9, 3) := by decide +kernel
theorem dJ0_indexOf_7cf53_27 : decode cJ0_indexOf_7cf53 27 = .ok (.iload_n 1, 1) := by decide +kernel
theorem dJ0_indexOf_7cf53_28 : decode cJ0_indexOf_7cf53 28 = .ok (.iload_n 2, 1) := by decide +kernel
theorem dJ0_indexOf_7cf53_29 : decode cJ0_indexOf_7cf53 29 = .ok (.aload_n 0, 1) := by decide +kernel
theorem dJ0_indexOf_7cf53_30 : decode cJ0_indexOf_7cf53 30 = .ok (.invokevirtual 505, 3) := by decide +kernel
theorem dJ0_indexOf_7cf53_33 : decode cJ0_indexOf_7cf53 33 = .ok (.invokestatic 640, 3) := by decide +kernel
theorem dJ0_indexOf_7cf53_36 : decode cJ0_indexOf_7cf53 36 = .ok (.ireturn, 1) := by decide +kernel
theorem dJ0_coder_7d493_0 : decode cJ0_coder_7d493 0 = .ok (.getstatic 38, 3) := by decide +kernel
theorem dJ0_coder_7d493_3 : decode cJ0_coder_7d493 3 = .ok (.ifCond .eq 10, 3) := by decide +kernel
theorem dJ0_coder_7d493_6 : decode cJ0_coder_7d493 6 = .ok (.aload_n 0, 1) := by decide +kernel
theorem dJ0_coder_7d493_7 : decode cJ0_coder_7d493 7 = .ok (.getfield 15, 3) := by decide +kernel
theorem dJ0_coder_7d493_10 : decode cJ0_coder_7d493 10 = .ok (.goto 4, 3) := by decide +kernel
theorem dJ0_coder_7d493_13 : decode cJ0_coder_7d493 13 = .ok (.iconst 1, 1) := by decide +kernel
theorem dJ0_coder_7d493_14 : decode cJ0_coder_7d493 14 = .ok (.ireturn, 1) := by decide +kernel
theorem dJ0_isLatin1_aae02_0 : decode cJ0_isLatin1_aae02 0 = .ok (.getstatic 38, 3) := by decide +kernel
theorem dJ0_isLatin1_aae02_3 : decode cJ0_isLatin1_aae02 3 = .ok (.ifCond .eq 14, 3) := by decide +kernel
theorem dJ0_isLatin1_aae02_6 : decode cJ0_isLatin1_aae02 6 = .ok (.aload_n 0, 1) := by decide +kernel
theorem dJ0_isLatin1_aae02_7 : decode cJ0_isLatin1_aae02 7 = .ok (.getfield 15, 3) := by decide +kernel
theorem dJ0_isLatin1_aae02_10 : decode cJ0_isLatin1_aae02 10 = .ok (.ifCond .ne 7, 3) := by decide +kernel
theorem dJ0_isLatin1_aae02_13 : decode cJ0_isLatin1_aae02 13 = .ok (.iconst 1, 1) := by decide +kernel
theorem dJ0_isLatin1_aae02_14 : decode cJ0_isLatin1_aae02 14 = .ok (.goto 4, 3) := by decide +kernel
theorem dJ0_isLatin1_aae02_17 : decode cJ0_isLatin1_aae02 17 = .ok (.iconst 0, 1) := by decide +kernel
theorem dJ0_isLatin1_aae02_18 : decode cJ0_isLatin1_aae02 18 = .ok (.ireturn, 1) := by decide +kernel
set_option maxRecDepth 20000 in
theorem ggJ0_checkBoundsBeginEnd_23922_J3_checkFromToIndex_8c36e : GoodIn wsJ0_checkBoundsBeginEnd_23922 wsJ3_checkFromToIndex_8c36e := goodIn_r _ [5] (by decide +kernel) (by decide +kernel)
set_option maxRecDepth 20000 in
theorem gJ0_checkBoundsBeginEnd_23922_J3_checkFromToIndex_8c36e : GoodIn wsJ0_checkBoundsBeginEnd_23922 (va_wsS RJ0 1062 yJ3_checkFromToIndex_8c36e wsJ3_checkFromToIndex_8c36e) := goodIn_app (goodIn_of _ (by decide +kernel)) ggJ0_checkBoundsBeginEnd_23922_J3_checkFromToIndex_8c36e
theorem dJ0_checkBoundsBeginEnd_23922_0 : decode cJ0_checkBoundsBeginEnd_23922 0 = .ok (.iload_n 0, 1) := by decide +kernel
theorem dJ0_checkBoundsBeginEnd_23922_1 : decode cJ0_checkBoundsBeginEnd_23922 1 = .ok (.iload_n 1, 1) := by decide +kernel
theorem dJ0_checkBoundsBeginEnd_23922_2 : decode cJ0_checkBoundsBeginEnd_23922 2 = .ok (.iload_n 2, 1) := by decide +kernel
theorem dJ0_checkBoundsBeginEnd_23922_3 : decode cJ0_checkBoundsBeginEnd_23922 3 = .ok (.getstatic 1053, 3) := by decide +kernel
theorem dJ0_checkBoundsBeginEnd_23922_6 : decode cJ0_checkBoundsBeginEnd_23922 6 = .ok (.invokestatic 1062, 3) := by decide +kernel
theorem dJ0_checkBoundsBeginEnd_23922_9 : decode cJ0_checkBoundsBeginEnd_23922 9 = .ok (.pop, 1) := by decide +kernel
theorem dJ0_checkBoundsBeginEnd_23922_10 : decode cJ0_checkBoundsBeginEnd_23922 10 = .ok (.return_, 1) := by decide +kernel
theorem dJ1_canEncode_9a6ad_0 : decode cJ1_canEncode_9a6ad 0 = .ok (.iload_n 0, 1) := by decide +kernel
theorem dJ1_canEncode_9a6ad_1 : decode cJ1_canEncode_9a6ad 1 = .ok (.ifCond .lt 14, 3) := by decide +kernel
theorem dJ1_canEncode_9a6ad_4 : decode cJ1_canEncode_9a6ad 4 = .ok (.iload_n 0, 1) := by decide +kernel
theorem dJ1_canEncode_9a6ad_5 : decode cJ1_canEncode_9a6ad 5 = .ok (.sipush 255, 3) := by decide +kernel
theorem dJ1_canEncode_9a6ad_8 : decode cJ1_canEncode_9a6ad 8 = .ok (.if_icmp .gt 7, 3) := by decide +kernel
theorem dJ1_canEncode_9a6ad_11 : decode cJ1_canEncode_9a6ad 11 = .ok (.iconst 1, 1) := by decide +kernel
theorem dJ1_canEncode_9a6ad_12 : decode cJ1_canEncode_9a6ad 12 = .ok (.goto 4, 3) := by decide +kernel
theorem dJ1_canEncode_9a6ad_15 : decode cJ1_canEncode_9a6ad 15 = .ok (.iconst 0, 1) := by decide +kernel
theorem dJ1_canEncode_9a6ad_16 : decode cJ1_canEncode_9a6ad 16 = .ok (.ireturn, 1) := by decide +kernel
set_option maxRecDepth 20000 in
theorem ggJ1_indexOf_4cfef_J1_canEncode_9a6ad : GoodIn wsJ1_indexOf_4cfef wsJ1_canEncode_9a6ad := goodIn_r _ [11] (by decide +kernel) (by decide +kernel)
set_option maxRecDepth 20000 in
theorem gJ1_indexOf_4cfef_J1_canEncode_9a6ad : GoodIn wsJ1_indexOf_4cfef (va_wsS RJ1 88 yJ1_canEncode_9a6ad wsJ1_canEncode_9a6ad) := goodIn_app (goodIn_of _ (by decide +kernel)) ggJ1_indexOf_4cfef_J1_canEncode_9a6ad
set_option maxRecDepth 20000 in
theorem ggJ1_indexOf_4cfef_J1_indexOfChar_4cfef : GoodIn wsJ1_indexOf_4cfef wsJ1_indexOfChar_4cfef := goodIn_r _ [14] (by decide +kernel) (by decide +kernel)
set_option maxRecDepth 20000 in
theorem gJ1_indexOf_4cfef_J1_indexOfChar_4cfef : GoodIn wsJ1_indexOf_4cfef (va_wsS RJ1 95 yJ1_indexOfChar_4cfef wsJ1_indexOfChar_4cfef) := goodIn_app (goodIn_of _ (by decide +kernel)) ggJ1_indexOf_4cfef_J1_indexOfChar_4cfef
theorem dJ1_indexOf_4cfef_0 : decode cJ1_indexOf_4cfef 0 = .ok (.iload_n 1, 1) := by decide +kernel
theorem dJ1_indexOf_4cfef_1 : decode cJ1_indexOf_4cfef 1 = .ok (.invokestatic 88, 3) := by decide +kernel
theorem dJ1_indexOf_4cfef_4 : decode cJ1_indexOf_4cfef 4 = .ok (.ifCond .ne 5, 3) := by decide +kernel
theorem dJ1_indexOf_4cfef_7 : decode cJ1_indexOf_4cfef 7 = .ok (.iconst (-1), 1) := by decide +kernel
theorem dJ1_indexOf_4cfef_8 : decode cJ1_indexOf_4cfef 8 = .ok (.ireturn, 1) := by decide +kernel
theorem dJ1_indexOf_4cfef_9 : decode cJ1_indexOf_4cfef 9 = .ok (.iload_n 2, 1) := by decide +kernel
theorem dJ1_indexOf_4cfef_10 : decode cJ1_indexOf_4cfef 10 = .ok (.iconst 0, 1) := by decide +kernel
theorem dJ1_indexOf_4cfef_11 : decode cJ1_indexOf_4cfef 11 = .ok (.invokestatic 92, 3) := by decide +kernel
theorem dJ1_indexOf_4cfef_14 : decode cJ1_indexOf_4cfef 14 = .ok (.istore_n 2, 1) := by decide +kernel
theorem dJ1_indexOf_4cfef_15 : decode cJ1_indexOf_4cfef 15 = .ok (.iload_n 3, 1) := by decide +kernel
theorem dJ1_indexOf_4cfef_16 : decode cJ1_indexOf_4cfef 16 = .ok (.aload_n 0, 1) := by decide +kernel
theorem dJ1_indexOf_4cfef_17 : decode cJ1_indexOf_4cfef 17 = .ok (.arraylength, 1) := by decide +kernel
theorem dJ1_indexOf_4cfef_18 : decode cJ1_indexOf_4cfef 18 = .ok (.invokestatic 38, 3) := by decide +kernel
theorem dJ1_indexOf_4cfef_21 : decode cJ1_indexOf_4cfef 21 = .ok (.istore_n 3, 1) := by decide +kernel
theorem dJ1_indexOf_4cfef_22 : decode cJ1_indexOf_4cfef 22 = .ok (.iload_n 2, 1) := by decide +kernel
theorem dJ1_indexOf_4cfef_23 : decode cJ1_indexOf_4cfef 23 = .ok (.iload_n 3, 1) := by decide +kernel
theorem dJ1_indexOf_4cfef_24 : decode cJ1_indexOf_4cfef 24 = .ok (.if_icmp .lt 5, 3) := by decide +kernel
theorem dJ1_indexOf_4cfef_27 : decode cJ1_indexOf_4cfef 27 = .ok (.iconst (-1), 1) := by decide +kernel
theorem dJ1_indexOf_4cfef_28 : decode cJ1_indexOf_4cfef 28 = .ok (.ireturn, 1) := by decide +kernel
theorem dJ1_indexOf_4cfef_29 : decode cJ1_indexOf_4cfef 29 = .ok (.aload_n 0, 1) := by decide +kernel
theorem dJ1_indexOf_4cfef_30 : decode cJ1_indexOf_4cfef 30 = .ok (.iload_n 1, 1) := by decide +kernel
theorem dJ1_indexOf_4cfef_31 : decode cJ1_indexOf_4cfef 31 = .ok (.iload_n 2, 1) := by decide +kernel
theorem dJ1_indexOf_4cfef_32 : decode cJ1_indexOf_4cfef 32 = .ok (.iload_n 3, 1) := by decide +kernel
theorem dJ1_indexOf_4cfef_33 : decode cJ1_indexOf_4cfef 33 = .ok (.invokestatic 95, 3) := by decide +kernel
theorem dJ1_indexOf_4cfef_36 : decode cJ1_indexOf_4cfef 36 = .ok (.ireturn, 1) := by decide +kernel
theorem dJ1_indexOfChar_4cfef_0 : decode cJ1_indexOfChar_4cfef 0 = .ok (.iload_n 1, 1) := by decide +kernel
theorem dJ1_indexOfChar_4cfef_1 : decode cJ1_indexOfChar_4cfef 1 = .ok (.i2b, 1) := by decide +kernel
theorem dJ1_indexOfChar_4cfef_2 : decode cJ1_indexOfChar_4cfef 2 = .ok (.istore 4, 2) := by decide +kernel
theorem dJ1_indexOfChar_4cfef_4 : decode cJ1_indexOfChar_4cfef 4 = .ok (.iload_n 2, 1) := by decide +kernel
theorem dJ1_indexOfChar_4cfef_5 : decode cJ1_indexOfChar_4cfef 5 = .ok (.istore 5, 2) := by decide +kernel
theorem dJ1_indexOfChar_4cfef_7 : decode cJ1_indexOfChar_4cfef 7 = .ok (.iload 5, 2) := by decide +kernel
theorem dJ1_indexOfChar_4cfef_9 : decode cJ1_indexOfChar_4cfef 9 = .ok (.iload_n 3, 1) := by decide +kernel
theorem dJ1_indexOfChar_4cfef_10 : decode cJ1_indexOfChar_4cfef 10 = .ok (.if_icmp .ge 21, 3) := by decide +kernel
theorem dJ1_indexOfChar_4cfef_13 : decode cJ1_indexOfChar_4cfef 13 = .ok (.aload_n 0, 1) := by decide +kernel
theorem dJ1_indexOfChar_4cfef_14 : decode cJ1_indexOfChar_4cfef 14 = .ok (.iload 5, 2) := by decide +kernel
theorem dJ1_indexOfChar_4cfef_16 : decode cJ1_indexOfChar_4cfef 16 = .ok (.baload, 1) := by decide +kernel
theorem dJ1_indexOfChar_4cfef_17 : decode cJ1_indexOfChar_4cfef 17 = .ok (.iload 4, 2) := by decide +kernel
theorem dJ1_indexOfChar_4cfef_19 : decode cJ1_indexOfChar_4cfef 19 = .ok (.if_icmp .ne 6, 3) := by decide +kernel
theorem dJ1_indexOfChar_4cfef_22 : decode cJ1_indexOfChar_4cfef 22 = .ok (.iload 5, 2) := by decide +kernel
theorem dJ1_indexOfChar_4cfef_24 : decode cJ1_indexOfChar_4cfef 24 = .ok (.ireturn, 1) := by decide +kernel
theorem dJ1_indexOfChar_4cfef_25 : decode cJ1_indexOfChar_4cfef 25 = .ok (.iinc 5 1, 3) := by decide +kernel
theorem dJ1_indexOfChar_4cfef_28 : decode cJ1_indexOfChar_4cfef 28 = .ok (.goto (-21), 3) := by decide +kernel
theorem dJ1_indexOfChar_4cfef_31 : decode cJ1_indexOfChar_4cfef 31 = .ok (.iconst (-1), 1) := by decide +kernel
theorem dJ1_indexOfChar_4cfef_32 : decode cJ1_indexOfChar_4cfef 32 = .ok (.ireturn, 1) := by decide +kernel
set_option maxRecDepth 20000 in
theorem ggJ2_getChar_3b067_J2_length_9d52b : GoodIn wsJ2_getChar_3b067 wsJ2_length_9d52b := goodIn_r _ [7] (by decide +kernel) (by decide +kernel)
set_option maxRecDepth 20000 in
theorem gJ2_getChar_3b067_J2_length_9d52b : GoodIn wsJ2_getChar_3b067 (va_wsS RJ2 48 yJ2_length_9d52b wsJ2_length_9d52b) := goodIn_app (goodIn_of _ (by decide +kernel)) ggJ2_getChar_3b067_J2_length_9d52b
theorem dJ2_getChar_3b067_0 : decode cJ2_getChar_3b067 0 = .ok (.getstatic 44, 3) := by decide +kernel
theorem dJ2_getChar_3b067_3 : decode cJ2_getChar_3b067 3 = .ok (.ifCond .ne 25, 3) := by decide +kernel
theorem dJ2_getChar_3b067_6 : decode cJ2_getChar_3b067 6 = .ok (.iload_n 1, 1) := by decide +kernel
theorem dJ2_getChar_3b067_7 : decode cJ2_getChar_3b067 7 = .ok (.ifCond .lt 11, 3) := by decide +kernel
theorem dJ2_getChar_3b067_10 : decode cJ2_getChar_3b067 10 = .ok (.iload_n 1, 1) := by decide +kernel
theorem dJ2_getChar_3b067_11 : decode cJ2_getChar_3b067 11 = .ok (.aload_n 0, 1) := by decide +kernel
theorem dJ2_getChar_3b067_12 : decode cJ2_getChar_3b067 12 = .ok (.invokestatic 48, 3) := by decide +kernel
theorem dJ2_getChar_3b067_15 : decode cJ2_getChar_3b067 15 = .ok (.if_icmp .lt 13, 3) := by decide +kernel
theorem dJ2_getChar_3b067_18 : decode cJ2_getChar_3b067 18 = .ok (.new 52, 3) := by decide +kernel
theorem dJ2_getChar_3b067_21 : decode cJ2_getChar_3b067 21 = .ok (.dup, 1) := by decide +kernel
theorem dJ2_getChar_3b067_22 : decode cJ2_getChar_3b067 22 = .ok (.ldc 54, 2) := by decide +kernel
theorem dJ2_getChar_3b067_24 : decode cJ2_getChar_3b067 24 = .ok (.invokespecial 56, 3) := by decide +kernel
theorem dJ2_getChar_3b067_27 : decode cJ2_getChar_3b067 27 = .ok (.athrow, 1) := by decide +kernel
theorem dJ2_getChar_3b067_28 : decode cJ2_getChar_3b067 28 = .ok (.iload_n 1, 1) := by decide +kernel
theorem dJ2_getChar_3b067_29 : decode cJ2_getChar_3b067 29 = .ok (.iconst 1, 1) := by decide +kernel
theorem dJ2_getChar_3b067_30 : decode cJ2_getChar_3b067 30 = .ok (.ishl, 1) := by decide +kernel
theorem dJ2_getChar_3b067_31 : decode cJ2_getChar_3b067 31 = .ok (.istore_n 1, 1) := by decide +kernel
theorem dJ2_getChar_3b067_32 : decode cJ2_getChar_3b067 32 = .ok (.aload_n 0, 1) := by decide +kernel
theorem dJ2_getChar_3b067_33 : decode cJ2_getChar_3b067 33 = .ok (.iload_n 1, 1) := by decide +kernel
theorem dJ2_getChar_3b067_34 : decode cJ2_getChar_3b067 34 = .ok (.iinc 1 1, 3) := by decide +kernel
theorem dJ2_getChar_3b067_37 : decode cJ2_getChar_3b067 37 = .ok (.baload, 1) := by decide +kernel
theorem dJ2_getChar_3b067_38 : decode cJ2_getChar_3b067 38 = .ok (.sipush 255, 3) := by decide +kernel
theorem dJ2_getChar_3b067_41 : decode cJ2_getChar_3b067 41 = .ok (.iand, 1) := by decide +kernel
theorem dJ2_getChar_3b067_42 : decode cJ2_getChar_3b067 42 = .ok (.getstatic 59, 3) := by decide +kernel
theorem dJ2_getChar_3b067_45 : decode cJ2_getChar_3b067 45 = .ok (.ishl, 1) := by decide +kernel
theorem dJ2_getChar_3b067_46 : decode cJ2_getChar_3b067 46 = .ok (.aload_n 0, 1) := by decide +kernel
theorem dJ2_getChar_3b067_47 : decode cJ2_getChar_3b067 47 = .ok (.iload_n 1, 1) := by decide +kernel
theorem dJ2_getChar_3b067_48 : decode cJ2_getChar_3b067 48 = .ok (.baload, 1) := by decide +kernel
theorem dJ2_getChar_3b067_49 : decode cJ2_getChar_3b067 49 = .ok (.sipush 255, 3) := by decide +kernel
theorem dJ2_getChar_3b067_52 : decode cJ2_getChar_3b067 52 = .ok (.iand, 1) := by decide +kernel
theorem dJ2_getChar_3b067_53 : decode cJ2_getChar_3b067 53 = .ok (.getstatic 63, 3) := by decide +kernel
theorem dJ2_getChar_3b067_56 : decode cJ2_getChar_3b067 56 = .ok (.ishl, 1) := by decide +kernel
theorem dJ2_getChar_3b067_57 : decode cJ2_getChar_3b067 57 = .ok (.ior, 1) := by decide +kernel
theorem dJ2_getChar_3b067_58 : decode cJ2_getChar_3b067 58 = .ok (.i2c, 1) := by decide +kernel
theorem dJ2_getChar_3b067_59 : decode cJ2_getChar_3b067 59 = .ok (.ireturn, 1) := by decide +kernel
theorem dJ2_length_9d52b_0 : decode cJ2_length_9d52b 0 = .ok (.aload_n 0, 1) := by decide +kernel
theorem dJ2_length_9d52b_1 : decode cJ2_length_9d52b 1 = .ok (.arraylength, 1) := by decide +kernel
theorem dJ2_length_9d52b_2 : decode cJ2_length_9d52b 2 = .ok (.iconst 1, 1) := by decide +kernel
theorem dJ2_length_9d52b_3 : decode cJ2_length_9d52b 3 = .ok (.ishr, 1) := by decide +kernel
theorem dJ2_length_9d52b_4 : decode cJ2_length_9d52b 4 = .ok (.ireturn, 1) := by decide +kernel
set_option maxRecDepth 20000 in
theorem ggJ2_indexOf_4cfef_J2_indexOfChar_4cfef : GoodIn wsJ2_indexOf_4cfef wsJ2_indexOfChar_4cfef := goodIn_r _ [12, 13, 14, 11, 15, 16, 17, 18, 19, 20, 21, 22, 23, 24, 25, 26, 27, 28, 29, 30, 31, 32, 33, 34, 35, 36] (by decide +kernel) (by decide +kernel)
set_option maxRecDepth 20000 in
theorem gJ2_indexOf_4cfef_J2_indexOfChar_4cfef : GoodIn wsJ2_indexOf_4cfef (va_wsS RJ2 228 yJ2_indexOfChar_4cfef wsJ2_indexOfChar_4cfef) := goodIn_app (goodIn_of _ (by decide +kernel)) ggJ2_indexOf_4cfef_J2_indexOfChar_4cfef
set_option maxRecDepth 20000 in
theorem ggJ2_indexOf_4cfef_J2_indexOfSupplementary_4cfef : GoodIn wsJ2_indexOf_4cfef wsJ2_indexOfSupplementary_4cfef := goodIn_r _ [39, 40, 41, 42, 43, 44, 45, 46, 47, 48, 49, 50, 51, 13, 14, 11, 15, 16, 17, 18, 19, 20, 21, 22, 23, 24, 25, 26, 27, 31, 32, 33, 34, 35, 36] (by decide +kernel) (by decide +kernel)
set_option maxRecDepth 20000 in
theorem gJ2_indexOf_4cfef_J2_indexOfSupplementary_4cfef : GoodIn wsJ2_indexOf_4cfef (va_wsS RJ2 232 yJ2_indexOfSupplementary_4cfef wsJ2_indexOfSupplementary_4cfef) := goodIn_app (goodIn_of _ (by decide +kernel)) ggJ2_indexOf_4cfef_J2_indexOfSupplementary_4cfef
theorem dJ2_indexOf_4cfef_0 : decode cJ2_indexOf_4cfef 0 = .ok (.iload_n 2, 1) := by decide +kernel
theorem dJ2_indexOf_4cfef_1 : decode cJ2_indexOf_4cfef 1 = .ok (.iconst 0, 1) := by decide +kernel
theorem dJ2_indexOf_4cfef_2 : decode cJ2_indexOf_4cfef 2 = .ok (.invokestatic 224, 3) := by decide +kernel
theorem dJ2_indexOf_4cfef_5 : decode cJ2_indexOf_4cfef 5 = .ok (.istore_n 2, 1) := by decide +kernel
theorem dJ2_indexOf_4cfef_6 : decode cJ2_indexOf_4cfef 6 = .ok (.iload_n 3, 1) := by decide +kernel
theorem dJ2_indexOf_4cfef_7 : decode cJ2_indexOf_4cfef 7 = .ok (.aload_n 0, 1) := by decide +kernel
theorem dJ2_indexOf_4cfef_8 : decode cJ2_indexOf_4cfef 8 = .ok (.arraylength, 1) := by decide +kernel
theorem dJ2_indexOf_4cfef_9 : decode cJ2_indexOf_4cfef 9 = .ok (.iconst 1, 1) := by decide +kernel
theorem dJ2_indexOf_4cfef_10 : decode cJ2_indexOf_4cfef 10 = .ok (.ishr, 1) := by decide +kernel
theorem dJ2_indexOf_4cfef_11 : decode cJ2_indexOf_4cfef 11 = .ok (.invokestatic 183, 3) := by decide +kernel
theorem dJ2_indexOf_4cfef_14 : decode cJ2_indexOf_4cfef 14 = .ok (.istore_n 3, 1) := by decide +kernel
theorem dJ2_indexOf_4cfef_15 : decode cJ2_indexOf_4cfef 15 = .ok (.iload_n 2, 1) := by decide +kernel
theorem dJ2_indexOf_4cfef_16 : decode cJ2_indexOf_4cfef 16 = .ok (.iload_n 3, 1) := by decide +kernel
theorem dJ2_indexOf_4cfef_17 : decode cJ2_indexOf_4cfef 17 = .ok (.if_icmp .lt 5, 3) := by decide +kernel
theorem dJ2_indexOf_4cfef_20 : decode cJ2_indexOf_4cfef 20 = .ok (.iconst (-1), 1) := by decide +kernel
theorem dJ2_indexOf_4cfef_21 : decode cJ2_indexOf_4cfef 21 = .ok (.ireturn, 1) := by decide +kernel
theorem dJ2_indexOf_4cfef_22 : decode cJ2_indexOf_4cfef 22 = .ok (.iload_n 1, 1) := by decide +kernel
theorem dJ2_indexOf_4cfef_23 : decode cJ2_indexOf_4cfef 23 = .ok (.ldc 227, 2) := by decide +kernel
theorem dJ2_indexOf_4cfef_25 : decode cJ2_indexOf_4cfef 25 = .ok (.if_icmp .ge 11, 3) := by decide +kernel
theorem dJ2_indexOf_4cfef_28 : decode cJ2_indexOf_4cfef 28 = .ok (.aload_n 0, 1) := by decide +kernel
theorem dJ2_indexOf_4cfef_29 : decode cJ2_indexOf_4cfef 29 = .ok (.iload_n 1, 1) := by decide +kernel
theorem dJ2_indexOf_4cfef_30 : decode cJ2_indexOf_4cfef 30 = .ok (.iload_n 2, 1) := by decide +kernel
theorem dJ2_indexOf_4cfef_31 : decode cJ2_indexOf_4cfef 31 = .ok (.iload_n 3, 1) := by decide +kernel
theorem dJ2_indexOf_4cfef_32 : decode cJ2_indexOf_4cfef 32 = .ok (.invokestatic 228, 3) := by decide +kernel
theorem dJ2_indexOf_4cfef_35 : decode cJ2_indexOf_4cfef 35 = .ok (.ireturn, 1) := by decide +kernel
theorem dJ2_indexOf_4cfef_36 : decode cJ2_indexOf_4cfef 36 = .ok (.aload_n 0, 1) := by decide +kernel
theorem dJ2_indexOf_4cfef_37 : decode cJ2_indexOf_4cfef 37 = .ok (.iload_n 1, 1) := by decide +kernel
theorem dJ2_indexOf_4cfef_38 : decode cJ2_indexOf_4cfef 38 = .ok (.iload_n 2, 1) := by decide +kernel
theorem dJ2_indexOf_4cfef_39 : decode cJ2_indexOf_4cfef 39 = .ok (.iload_n 3, 1) := by decide +kernel
theorem dJ2_indexOf_4cfef_40 : decode cJ2_indexOf_4cfef 40 = .ok (.invokestatic 232, 3) := by decide +kernel
theorem dJ2_indexOf_4cfef_43 : decode cJ2_indexOf_4cfef 43 = .ok (.ireturn, 1) := by decide +kernel
set_option maxRecDepth 20000 in
theorem ggJ2_indexOfChar_4cfef_J2_checkBoundsBeginEnd_d044e : GoodIn wsJ2_indexOfChar_4cfef wsJ2_checkBoundsBeginEnd_d044e := goodIn_r _ [4, 5, 6, 3, 7, 8, 9, 10, 11, 12, 13, 14, 15, 16] (by decide +kernel) (by decide +kernel)
set_option maxRecDepth 20000 in
theorem gJ2_indexOfChar_4cfef_J2_checkBoundsBeginEnd_d044e : GoodIn wsJ2_indexOfChar_4cfef (va_wsS RJ2 96 yJ2_checkBoundsBeginEnd_d044e wsJ2_checkBoundsBeginEnd_d044e) := goodIn_app (goodIn_of _ (by decide +kernel)) ggJ2_indexOfChar_4cfef_J2_checkBoundsBeginEnd_d044e
set_option maxRecDepth 20000 in
theorem ggJ2_indexOfChar_4cfef_J2_indexOfCharUnsafe_4cfef : GoodIn wsJ2_indexOfChar_4cfef wsJ2_indexOfCharUnsafe_4cfef := goodIn_r _ [19, 20, 21, 3, 22, 23, 24, 25, 5, 6, 7] (by decide +kernel) (by decide +kernel)
set_option maxRecDepth 20000 in
theorem gJ2_indexOfChar_4cfef_J2_indexOfCharUnsafe_4cfef : GoodIn wsJ2_indexOfChar_4cfef (va_wsS RJ2 244 yJ2_indexOfCharUnsafe_4cfef wsJ2_indexOfCharUnsafe_4cfef) := goodIn_app (goodIn_of _ (by decide +kernel)) ggJ2_indexOfChar_4cfef_J2_indexOfCharUnsafe_4cfef
theorem dJ2_indexOfChar_4cfef_0 : decode cJ2_indexOfChar_4cfef 0 = .ok (.iload_n 2, 1) := by decide +kernel
theorem dJ2_indexOfChar_4cfef_1 : decode cJ2_indexOfChar_4cfef 1 = .ok (.iload_n 3, 1) := by decide +kernel
theorem dJ2_indexOfChar_4cfef_2 : decode cJ2_indexOfChar_4cfef 2 = .ok (.aload_n 0, 1) := by decide +kernel
theorem dJ2_indexOfChar_4cfef_3 : decode cJ2_indexOfChar_4cfef 3 = .ok (.invokestatic 96, 3) := by decide +kernel
theorem dJ2_indexOfChar_4cfef_6 : decode cJ2_indexOfChar_4cfef 6 = .ok (.aload_n 0, 1) := by decide +kernel
theorem dJ2_indexOfChar_4cfef_7 : decode cJ2_indexOfChar_4cfef 7 = .ok (.iload_n 1, 1) := by decide +kernel
theorem dJ2_indexOfChar_4cfef_8 : decode cJ2_indexOfChar_4cfef 8 = .ok (.iload_n 2, 1) := by decide +kernel
theorem dJ2_indexOfChar_4cfef_9 : decode cJ2_indexOfChar_4cfef 9 = .ok (.iload_n 3, 1) := by decide +kernel
theorem dJ2_indexOfChar_4cfef_10 : decode cJ2_indexOfChar_4cfef 10 = .ok (.invokestatic 244, 3) := by decide +kernel
theorem dJ2_indexOfChar_4cfef_13 : decode cJ2_indexOfChar_4cfef 13 = .ok (.ireturn, 1) := by decide +kernel
set_option maxRecDepth 20000 in
theorem ggJ2_indexOfCharUnsafe_4cfef_J2_getChar_3b067 : GoodIn wsJ2_indexOfCharUnsafe_4cfef wsJ2_getChar_3b067 := goodIn_r _ [4, 5, 6, 7, 8, 9, 3, 10] (by decide +kernel) (by decide +kernel)
set_option maxRecDepth 20000 in
theorem gJ2_indexOfCharUnsafe_4cfef_J2_getChar_3b067 : GoodIn wsJ2_indexOfCharUnsafe_4cfef (va_wsS RJ2 71 yJ2_getChar_3b067 wsJ2_getChar_3b067) := goodIn_app (goodIn_of _ (by decide +kernel)) ggJ2_indexOfCharUnsafe_4cfef_J2_getChar_3b067
theorem dJ2_indexOfCharUnsafe_4cfef_0 : decode cJ2_indexOfCharUnsafe_4cfef 0 = .ok (.iload_n 2, 1) := by decide +kernel
theorem dJ2_indexOfCharUnsafe_4cfef_1 : decode cJ2_indexOfCharUnsafe_4cfef 1 = .ok (.istore 4, 2) := by decide +kernel
theorem dJ2_indexOfCharUnsafe_4cfef_3 : decode cJ2_indexOfCharUnsafe_4cfef 3 = .ok (.iload 4, 2) := by decide +kernel
theorem dJ2_indexOfCharUnsafe_4cfef_5 : decode cJ2_indexOfCharUnsafe_4cfef 5 = .ok (.iload_n 3, 1) := by decide +kernel
theorem dJ2_indexOfCharUnsafe_4cfef_6 : decode cJ2_indexOfCharUnsafe_4cfef 6 = .ok (.if_icmp .ge 22, 3) := by decide +kernel
theorem dJ2_indexOfCharUnsafe_4cfef_9 : decode cJ2_indexOfCharUnsafe_4cfef 9 = .ok (.aload_n 0, 1) := by decide +kernel
theorem dJ2_indexOfCharUnsafe_4cfef_10 : decode cJ2_indexOfCharUnsafe_4cfef 10 = .ok (.iload 4, 2) := by decide +kernel
theorem dJ2_indexOfCharUnsafe_4cfef_12 : decode cJ2_indexOfCharUnsafe_4cfef 12 = .ok (.invokestatic 71, 3) := by decide +kernel
theorem dJ2_indexOfCharUnsafe_4cfef_15 : decode cJ2_indexOfCharUnsafe_4cfef 15 = .ok (.iload_n 1, 1) := by decide +kernel
theorem dJ2_indexOfCharUnsafe_4cfef_16 : decode cJ2_indexOfCharUnsafe_4cfef 16 = .ok (.if_icmp .ne 6, 3) := by decide +kernel
theorem dJ2_indexOfCharUnsafe_4cfef_19 : decode cJ2_indexOfCharUnsafe_4cfef 19 = .ok (.iload 4, 2) := by decide +kernel
theorem dJ2_indexOfCharUnsafe_4cfef_21 : decode cJ2_indexOfCharUnsafe_4cfef 21 = .ok (.ireturn, 1) := by decide +kernel
theorem dJ2_indexOfCharUnsafe_4cfef_22 : decode cJ2_indexOfCharUnsafe_4cfef 22 = .ok (.iinc 4 1, 3) := by decide +kernel
theorem dJ2_indexOfCharUnsafe_4cfef_25 : decode cJ2_indexOfCharUnsafe_4cfef 25 = .ok (.goto (-22), 3) := by decide +kernel
theorem dJ2_indexOfCharUnsafe_4cfef_28 : decode cJ2_indexOfCharUnsafe_4cfef 28 = .ok (.iconst (-1), 1) := by decide +kernel
theorem dJ2_indexOfCharUnsafe_4cfef_29 : decode cJ2_indexOfCharUnsafe_4cfef 29 = .ok (.ireturn, 1) := by decide +kernel
set_option maxRecDepth 20000 in
theorem ggJ2_indexOfSupplementary_4cfef_J11_isValidCodePoint_9a6ad : GoodIn wsJ2_indexOfSupplementary_4cfef wsJ11_isValidCodePoint_9a6ad := goodIn_r _ [4] (by decide +kernel) (by decide +kernel)
set_option maxRecDepth 20000 in
theorem gJ2_indexOfSupplementary_4cfef_J11_isValidCodePoint_9a6ad : GoodIn wsJ2_indexOfSupplementary_4cfef (va_wsS RJ2 164 yJ11_isValidCodePoint_9a6ad wsJ11_isValidCodePoint_9a6ad) := goodIn_app (goodIn_of _ (by decide +kernel)) ggJ2_indexOfSupplementary_4cfef_J11_isValidCodePoint_9a6ad
set_option maxRecDepth 20000 in
theorem ggJ2_indexOfSupplementary_4cfef_J11_highSurrogate_5068e : GoodIn wsJ2_indexOfSupplementary_4cfef wsJ11_highSurrogate_5068e := goodIn_r _ [7, 8] (by decide +kernel) (by decide +kernel)
set_option maxRecDepth 20000 in
theorem gJ2_indexOfSupplementary_4cfef_J11_highSurrogate_5068e : GoodIn wsJ2_indexOfSupplementary_4cfef (va_wsS RJ2 157 yJ11_highSurrogate_5068e wsJ11_highSurrogate_5068e) := goodIn_app (goodIn_of _ (by decide +kernel)) ggJ2_indexOfSupplementary_4cfef_J11_highSurrogate_5068e
set_option maxRecDepth 20000 in
theorem ggJ2_indexOfSupplementary_4cfef_J11_lowSurrogate_5068e : GoodIn wsJ2_indexOfSupplementary_4cfef wsJ11_lowSurrogate_5068e := goodIn_r _ [11, 12] (by decide +kernel) (by decide +kernel)
set_option maxRecDepth 20000 in
theorem gJ2_indexOfSupplementary_4cfef_J11_lowSurrogate_5068e : GoodIn wsJ2_indexOfSupplementary_4cfef (va_wsS RJ2 161 yJ11_lowSurrogate_5068e wsJ11_lowSurrogate_5068e) := goodIn_app (goodIn_of _ (by decide +kernel)) ggJ2_indexOfSupplementary_4cfef_J11_lowSurrogate_5068e
set_option maxRecDepth 20000 in
theorem ggJ2_indexOfSupplementary_4cfef_J2_checkBoundsBeginEnd_d044e : GoodIn wsJ2_indexOfSupplementary_4cfef wsJ2_checkBoundsBeginEnd_d044e := goodIn_r _ [16, 17, 18, 15, 19, 20, 21, 22, 23, 24, 25, 26, 27, 28] (by decide +kernel) (by decide +kernel)
set_option maxRecDepth 20000 in
theorem gJ2_indexOfSupplementary_4cfef_J2_checkBoundsBeginEnd_d044e : GoodIn wsJ2_indexOfSupplementary_4cfef (va_wsS RJ2 96 yJ2_checkBoundsBeginEnd_d044e wsJ2_checkBoundsBeginEnd_d044e) := goodIn_app (goodIn_of _ (by decide +kernel)) ggJ2_indexOfSupplementary_4cfef_J2_checkBoundsBeginEnd_d044e
set_option maxRecDepth 20000 in
theorem ggJ2_indexOfSupplementary_4cfef_J2_getChar_3b067 : GoodIn wsJ2_indexOfSupplementary_4cfef wsJ2_getChar_3b067 := goodIn_r _ [31, 32, 33, 34, 17, 18, 15, 19] (by decide +kernel) (by decide +kernel)
set_option maxRecDepth 20000 in
theorem gJ2_indexOfSupplementary_4cfef_J2_getChar_3b067 : GoodIn wsJ2_indexOfSupplementary_4cfef (va_wsS RJ2 71 yJ2_getChar_3b067 wsJ2_getChar_3b067) := goodIn_app (goodIn_of _ (by decide +kernel)) ggJ2_indexOfSupplementary_4cfef_J2_getChar_3b067
theorem dJ2_indexOfSupplementary_4cfef_0 : decode cJ2_indexOfSupplementary_4cfef 0 = .ok (.iload_n 1, 1) := by decide +kernel
theorem dJ2_indexOfSupplementary_4cfef_1 : decode cJ2_indexOfSupplementary_4cfef 1 = .ok (.invokestatic 164, 3) := by decide +kernel
theorem dJ2_indexOfSupplementary_4cfef_4 : decode cJ2_indexOfSupplementary_4cfef 4 = .ok (.ifCond .eq 65, 3) := by decide +kernel
theorem dJ2_indexOfSupplementary_4cfef_7 : decode cJ2_indexOfSupplementary_4cfef 7 = .ok (.iload_n 1, 1) := by decide +kernel
theorem dJ2_indexOfSupplementary_4cfef_8 : decode cJ2_indexOfSupplementary_4cfef 8 = .ok (.invokestatic 157, 3) := by decide +kernel
theorem dJ2_indexOfSupplementary_4cfef_11 : decode cJ2_indexOfSupplementary_4cfef 11 = .ok (.istore 4, 2) := by decide +kernel
theorem dJ2_indexOfSupplementary_4cfef_13 : decode cJ2_indexOfSupplementary_4cfef 13 = .ok (.iload_n 1, 1) := by decide +kernel
theorem dJ2_indexOfSupplementary_4cfef_14 : decode cJ2_indexOfSupplementary_4cfef 14 = .ok (.invokestatic 161, 3) := by decide +kernel
theorem dJ2_indexOfSupplementary_4cfef_17 : decode cJ2_indexOfSupplementary_4cfef 17 = .ok (.istore 5, 2) := by decide +kernel
theorem dJ2_indexOfSupplementary_4cfef_19 : decode cJ2_indexOfSupplementary_4cfef 19 = .ok (.iload_n 2, 1) := by decide +kernel
theorem dJ2_indexOfSupplementary_4cfef_20 : decode cJ2_indexOfSupplementary_4cfef 20 = .ok (.iload_n 3, 1) := by decide +kernel
theorem dJ2_indexOfSupplementary_4cfef_21 : decode cJ2_indexOfSupplementary_4cfef 21 = .ok (.aload_n 0, 1) := by decide +kernel
theorem dJ2_indexOfSupplementary_4cfef_22 : decode cJ2_indexOfSupplementary_4cfef 22 = .ok (.invokestatic 96, 3) := by decide +kernel
theorem dJ2_indexOfSupplementary_4cfef_25 : decode cJ2_indexOfSupplementary_4cfef 25 = .ok (.iload_n 2, 1) := by decide +kernel
theorem dJ2_indexOfSupplementary_4cfef_26 : decode cJ2_indexOfSupplementary_4cfef 26 = .ok (.istore 6, 2) := by decide +kernel
theorem dJ2_indexOfSupplementary_4cfef_28 : decode cJ2_indexOfSupplementary_4cfef 28 = .ok (.iload 6, 2) := by decide +kernel
theorem dJ2_indexOfSupplementary_4cfef_30 : decode cJ2_indexOfSupplementary_4cfef 30 = .ok (.iload_n 3, 1) := by decide +kernel
theorem dJ2_indexOfSupplementary_4cfef_31 : decode cJ2_indexOfSupplementary_4cfef 31 = .ok (.iconst 1, 1) := by decide +kernel
theorem dJ2_indexOfSupplementary_4cfef_32 : decode cJ2_indexOfSupplementary_4cfef 32 = .ok (.isub, 1) := by decide +kernel
theorem dJ2_indexOfSupplementary_4cfef_33 : decode cJ2_indexOfSupplementary_4cfef 33 = .ok (.if_icmp .ge 36, 3) := by decide +kernel
theorem dJ2_indexOfSupplementary_4cfef_36 : decode cJ2_indexOfSupplementary_4cfef 36 = .ok (.aload_n 0, 1) := by decide +kernel
theorem dJ2_indexOfSupplementary_4cfef_37 : decode cJ2_indexOfSupplementary_4cfef 37 = .ok (.iload 6, 2) := by decide +kernel
theorem dJ2_indexOfSupplementary_4cfef_39 : decode cJ2_indexOfSupplementary_4cfef 39 = .ok (.invokestatic 71, 3) := by decide +kernel
theorem dJ2_indexOfSupplementary_4cfef_42 : decode cJ2_indexOfSupplementary_4cfef 42 = .ok (.iload 4, 2) := by decide +kernel
theorem dJ2_indexOfSupplementary_4cfef_44 : decode cJ2_indexOfSupplementary_4cfef 44 = .ok (.if_icmp .ne 19, 3) := by decide +kernel
theorem dJ2_indexOfSupplementary_4cfef_47 : decode cJ2_indexOfSupplementary_4cfef 47 = .ok (.aload_n 0, 1) := by decide +kernel
theorem dJ2_indexOfSupplementary_4cfef_48 : decode cJ2_indexOfSupplementary_4cfef 48 = .ok (.iload 6, 2) := by decide +kernel
theorem dJ2_indexOfSupplementary_4cfef_50 : decode cJ2_indexOfSupplementary_4cfef 50 = .ok (.iconst 1, 1) := by decide +kernel
theorem dJ2_indexOfSupplementary_4cfef_51 : decode cJ2_indexOfSupplementary_4cfef 51 = .ok (.iadd, 1) := by decide +kernel
theorem dJ2_indexOfSupplementary_4cfef_52 : decode cJ2_indexOfSupplementary_4cfef 52 = .ok (.invokestatic 71, 3) := by decide +kernel
theorem dJ2_indexOfSupplementary_4cfef_55 : decode cJ2_indexOfSupplementary_4cfef 55 = .ok (.iload 5, 2) := by decide +kernel
theorem dJ2_indexOfSupplementary_4cfef_57 : decode cJ2_indexOfSupplementary_4cfef 57 = .ok (.if_icmp .ne 6, 3) := by decide +kernel
theorem dJ2_indexOfSupplementary_4cfef_60 : decode cJ2_indexOfSupplementary_4cfef 60 = .ok (.iload 6, 2) := by decide +kernel
theorem dJ2_indexOfSupplementary_4cfef_62 : decode cJ2_indexOfSupplementary_4cfef 62 = .ok (.ireturn, 1) := by decide +kernel
theorem dJ2_indexOfSupplementary_4cfef_63 : decode cJ2_indexOfSupplementary_4cfef 63 = .ok (.iinc 6 1, 3) := by decide +kernel
theorem dJ2_indexOfSupplementary_4cfef_66 : decode cJ2_indexOfSupplementary_4cfef 66 = .ok (.goto (-38), 3) := by decide +kernel
theorem dJ2_indexOfSupplementary_4cfef_69 : decode cJ2_indexOfSupplementary_4cfef 69 = .ok (.iconst (-1), 1) := by decide +kernel
theorem dJ2_indexOfSupplementary_4cfef_70 : decode cJ2_indexOfSupplementary_4cfef 70 = .ok (.ireturn, 1) := by decide +kernel
set_option maxRecDepth 20000 in
theorem ggJ2_checkBoundsBeginEnd_d044e_J2_length_9d52b : GoodIn wsJ2_checkBoundsBeginEnd_d044e wsJ2_length_9d52b := goodIn_r _ [4] (by decide +kernel) (by decide +kernel)
set_option maxRecDepth 20000 in
theorem gJ2_checkBoundsBeginEnd_d044e_J2_length_9d52b : GoodIn wsJ2_checkBoundsBeginEnd_d044e (va_wsS RJ2 48 yJ2_length_9d52b wsJ2_length_9d52b) := goodIn_app (goodIn_of _ (by decide +kernel)) ggJ2_checkBoundsBeginEnd_d044e_J2_length_9d52b
set_option maxRecDepth 20000 in
theorem ggJ2_checkBoundsBeginEnd_d044e_J0_checkBoundsBeginEnd_23922 : GoodIn wsJ2_checkBoundsBeginEnd_d044e wsJ0_checkBoundsBeginEnd_23922 := goodIn_r _ [8, 9, 10, 11, 12, 13] (by decide +kernel) (by decide +kernel)
set_option maxRecDepth 20000 in
theorem gJ2_checkBoundsBeginEnd_d044e_J0_checkBoundsBeginEnd_23922 : GoodIn wsJ2_checkBoundsBeginEnd_d044e (va_wsS RJ2 241 yJ0_checkBoundsBeginEnd_23922 wsJ0_checkBoundsBeginEnd_23922) := goodIn_app (goodIn_of _ (by decide +kernel)) ggJ2_checkBoundsBeginEnd_d044e_J0_checkBoundsBeginEnd_23922
theorem dJ2_checkBoundsBeginEnd_d044e_0 : decode cJ2_checkBoundsBeginEnd_d044e 0 = .ok (.iload_n 0, 1) := by decide +kernel
theorem dJ2_checkBoundsBeginEnd_d044e_1 : decode cJ2_checkBoundsBeginEnd_d044e 1 = .ok (.iload_n 1, 1) := by decide +kernel
theorem dJ2_checkBoundsBeginEnd_d044e_2 : decode cJ2_checkBoundsBeginEnd_d044e 2 = .ok (.aload_n 2, 1) := by decide +kernel
theorem dJ2_checkBoundsBeginEnd_d044e_3 : decode cJ2_checkBoundsBeginEnd_d044e 3 = .ok (.invokestatic 48, 3) := by decide +kernel
theorem dJ2_checkBoundsBeginEnd_d044e_6 : decode cJ2_checkBoundsBeginEnd_d044e 6 = .ok (.invokestatic 241, 3) := by decide +kernel
theorem dJ2_checkBoundsBeginEnd_d044e_9 : decode cJ2_checkBoundsBeginEnd_d044e 9 = .ok (.return_, 1) := by decide +kernel
theorem dJ3_checkFromToIndex_8c36e_0 : decode cJ3_checkFromToIndex_8c36e 0 = .ok (.iload_n 0, 1) := by decide +kernel
theorem dJ3_checkFromToIndex_8c36e_1 : decode cJ3_checkFromToIndex_8c36e 1 = .ok (.ifCond .lt 13, 3) := by decide +kernel
theorem dJ3_checkFromToIndex_8c36e_4 : decode cJ3_checkFromToIndex_8c36e 4 = .ok (.iload_n 0, 1) := by decide +kernel
theorem dJ3_checkFromToIndex_8c36e_5 : decode cJ3_checkFromToIndex_8c36e 5 = .ok (.iload_n 1, 1) := by decide +kernel
theorem dJ3_checkFromToIndex_8c36e_6 : decode cJ3_checkFromToIndex_8c36e 6 = .ok (.if_icmp .gt 8, 3) := by decide +kernel
theorem dJ3_checkFromToIndex_8c36e_9 : decode cJ3_checkFromToIndex_8c36e 9 = .ok (.iload_n 1, 1) := by decide +kernel
theorem dJ3_checkFromToIndex_8c36e_10 : decode cJ3_checkFromToIndex_8c36e 10 = .ok (.iload_n 2, 1) := by decide +kernel
theorem dJ3_checkFromToIndex_8c36e_11 : decode cJ3_checkFromToIndex_8c36e 11 = .ok (.if_icmp .le 11, 3) := by decide +kernel
theorem dJ3_checkFromToIndex_8c36e_14 : decode cJ3_checkFromToIndex_8c36e 14 = .ok (.aload_n 3, 1) := by decide +kernel
theorem dJ3_checkFromToIndex_8c36e_15 : decode cJ3_checkFromToIndex_8c36e 15 = .ok (.iload_n 0, 1) := by decide +kernel
theorem dJ3_checkFromToIndex_8c36e_16 : decode cJ3_checkFromToIndex_8c36e 16 = .ok (.iload_n 1, 1) := by decide +kernel
theorem dJ3_checkFromToIndex_8c36e_17 : decode cJ3_checkFromToIndex_8c36e 17 = .ok (.iload_n 2, 1) := by decide +kernel
theorem dJ3_checkFromToIndex_8c36e_18 : decode cJ3_checkFromToIndex_8c36e 18 = .ok (.invokestatic 99, 3) := by decide +kernel
theorem dJ3_checkFromToIndex_8c36e_21 : decode cJ3_checkFromToIndex_8c36e 21 = .ok (.athrow, 1) := by decide +kernel
theorem dJ3_checkFromToIndex_8c36e_22 : decode cJ3_checkFromToIndex_8c36e 22 = .ok (.iload_n 0, 1) := by decide +kernel
theorem dJ3_checkFromToIndex_8c36e_23 : decode cJ3_checkFromToIndex_8c36e 23 = .ok (.ireturn, 1) := by decide +kernel
theorem dL_law_0 : decode cL_law 0 = .ok (.new 7, 3) := by decide +kernel
theorem dL_law_3 : decode cL_law 3 = .ok (.dup, 1) := by decide +kernel
theorem dL_law_4 : decode cL_law 4 = .ok (.invokespecial 9, 3) := by decide +kernel
theorem dL_law_7 : decode cL_law 7 = .ok (.astore_n 1, 1) := by decide +kernel
theorem dL_law_8 : decode cL_law 8 = .ok (.new 10, 3) := by decide +kernel
theorem dL_law_11 : decode cL_law 11 = .ok (.dup, 1) := by decide +kernel
theorem dL_law_12 : decode cL_law 12 = .ok (.invokespecial 12, 3) := by decide +kernel
theorem dL_law_15 : decode cL_law 15 = .ok (.astore_n 2, 1) := by decide +kernel
theorem dL_law_16 : decode cL_law 16 = .ok (.iconst 0, 1) := by decide +kernel
theorem dL_law_17 : decode cL_law 17 = .ok (.istore_n 3, 1) := by decide +kernel
theorem dL_law_18 : decode cL_law 18 = .ok (.iload_n 3, 1) := by decide +kernel
theorem dL_law_19 : decode cL_law 19 = .ok (.aload_n 0, 1) := by decide +kernel
theorem dL_law_20 : decode cL_law 20 = .ok (.arraylength, 1) := by decide +kernel
theorem dL_law_21 : decode cL_law 21 = .ok (.bipush 7, 2) := by decide +kernel
theorem dL_law_23 : decode cL_law 23 = .ok (.isub, 1) := by decide +kernel
theorem dL_law_24 : decode cL_law 24 = .ok (.if_icmp .gt 1323, 3) := by decide +kernel
theorem dL_law_27 : decode cL_law 27 = .ok (.aload_n 0, 1) := by decide +kernel
theorem dL_law_28 : decode cL_law 28 = .ok (.iload_n 3, 1) := by decide +kernel
theorem dL_law_29 : decode cL_law 29 = .ok (.iaload, 1) := by decide +kernel
theorem dL_law_30 : decode cL_law 30 = .ok (.bipush 63, 2) := by decide +kernel
theorem dL_law_32 : decode cL_law 32 = .ok (.iand, 1) := by decide +kernel
theorem dL_law_33 : decode cL_law 33 = .ok (.tableswitch 1308 0 32 #[147, 190, 223, 256, 289, 312, 325, 348, 371, 404, 447, 480, 503, 516, 539, 572, 605, 638, 661, 694, 727, 760, 793, 826, 869, 882, 895, 970, 1033, 1096, 1139, 1162, 1245], 147) := by decide +kernel
theorem dL_law_180 : decode cL_law 180 = .ok (.aload_n 1, 1) := by decide +kernel
theorem dL_law_181 : decode cL_law 181 = .ok (.aload_n 0, 1) := by decide +kernel
theorem dL_law_182 : decode cL_law 182 = .ok (.iload_n 3, 1) := by decide +kernel
theorem dL_law_183 : decode cL_law 183 = .ok (.iconst 1, 1) := by decide +kernel
theorem dL_law_184 : decode cL_law 184 = .ok (.iadd, 1) := by decide +kernel
theorem dL_law_185 : decode cL_law 185 = .ok (.iaload, 1) := by decide +kernel
theorem dL_law_186 : decode cL_law 186 = .ok (.aload_n 0, 1) := by decide +kernel
theorem dL_law_187 : decode cL_law 187 = .ok (.iload_n 3, 1) := by decide +kernel
theorem dL_law_188 : decode cL_law 188 = .ok (.iconst 2, 1) := by decide +kernel
theorem dL_law_189 : decode cL_law 189 = .ok (.iadd, 1) := by decide +kernel
theorem dL_law_190 : decode cL_law 190 = .ok (.iaload, 1) := by decide +kernel
theorem dL_law_191 : decode cL_law 191 = .ok (.aload_n 0, 1) := by decide +kernel
theorem dL_law_192 : decode cL_law 192 = .ok (.iload_n 3, 1) := by decide +kernel
theorem dL_law_193 : decode cL_law 193 = .ok (.iconst 3, 1) := by decide +kernel
theorem dL_law_194 : decode cL_law 194 = .ok (.iadd, 1) := by decide +kernel
theorem dL_law_195 : decode cL_law 195 = .ok (.iaload, 1) := by decide +kernel
theorem dL_law_196 : decode cL_law 196 = .ok (.invokevirtual 13, 3) := by decide +kernel
theorem dL_law_199 : decode cL_law 199 = .ok (.aload_n 2, 1) := by decide +kernel
theorem dL_law_200 : decode cL_law 200 = .ok (.aload_n 0, 1) := by decide +kernel
theorem dL_law_201 : decode cL_law 201 = .ok (.iload_n 3, 1) := by decide +kernel
theorem dL_law_202 : decode cL_law 202 = .ok (.iconst 1, 1) := by decide +kernel
theorem dL_law_203 : decode cL_law 203 = .ok (.iadd, 1) := by decide +kernel
theorem dL_law_204 : decode cL_law 204 = .ok (.iaload, 1) := by decide +kernel
theorem dL_law_205 : decode cL_law 205 = .ok (.aload_n 0, 1) := by decide +kernel
theorem dL_law_206 : decode cL_law 206 = .ok (.iload_n 3, 1) := by decide +kernel
theorem dL_law_207 : decode cL_law 207 = .ok (.iconst 2, 1) := by decide +kernel
theorem dL_law_208 : decode cL_law 208 = .ok (.iadd, 1) := by decide +kernel
theorem dL_law_209 : decode cL_law 209 = .ok (.iaload, 1) := by decide +kernel
theorem dL_law_210 : decode cL_law 210 = .ok (.aload_n 0, 1) := by decide +kernel
theorem dL_law_211 : decode cL_law 211 = .ok (.iload_n 3, 1) := by decide +kernel
theorem dL_law_212 : decode cL_law 212 = .ok (.iconst 3, 1) := by decide +kernel
theorem dL_law_213 : decode cL_law 213 = .ok (.iadd, 1) := by decide +kernel
theorem dL_law_214 : decode cL_law 214 = .ok (.iaload, 1) := by decide +kernel
theorem dL_law_215 : decode cL_law 215 = .ok (.invokevirtual 17, 3) := by decide +kernel
theorem dL_law_218 : decode cL_law 218 = .ok (.if_icmp .eq 1123, 3) := by decide +kernel
theorem dL_law_221 : decode cL_law 221 = .ok (.iconst 0, 1) := by decide +kernel
theorem dL_law_222 : decode cL_law 222 = .ok (.ireturn, 1) := by decide +kernel
theorem dL_law_223 : decode cL_law 223 = .ok (.aload_n 1, 1) := by decide +kernel
theorem dL_law_224 : decode cL_law 224 = .ok (.aload_n 0, 1) := by decide +kernel
theorem dL_law_225 : decode cL_law 225 = .ok (.iload_n 3, 1) := by decide +kernel
theorem dL_law_226 : decode cL_law 226 = .ok (.iconst 1, 1) := by decide +kernel
theorem dL_law_227 : decode cL_law 227 = .ok (.iadd, 1) := by decide +kernel
theorem dL_law_228 : decode cL_law 228 = .ok (.iaload, 1) := by decide +kernel
theorem dL_law_229 : decode cL_law 229 = .ok (.aload_n 0, 1) := by decide +kernel
theorem dL_law_230 : decode cL_law 230 = .ok (.iload_n 3, 1) := by decide +kernel
theorem dL_law_231 : decode cL_law 231 = .ok (.iconst 2, 1) := by decide +kernel
theorem dL_law_232 : decode cL_law 232 = .ok (.iadd, 1) := by decide +kernel
theorem dL_law_233 : decode cL_law 233 = .ok (.iaload, 1) := by decide +kernel
theorem dL_law_234 : decode cL_law 234 = .ok (.invokevirtual 18, 3) := by decide +kernel
theorem dL_law_237 : decode cL_law 237 = .ok (.aload_n 2, 1) := by decide +kernel
theorem dL_law_238 : decode cL_law 238 = .ok (.aload_n 0, 1) := by decide +kernel
theorem dL_law_239 : decode cL_law 239 = .ok (.iload_n 3, 1) := by decide +kernel
theorem dL_law_240 : decode cL_law 240 = .ok (.iconst 1, 1) := by decide +kernel
theorem dL_law_241 : decode cL_law 241 = .ok (.iadd, 1) := by decide +kernel
theorem dL_law_242 : decode cL_law 242 = .ok (.iaload, 1) := by decide +kernel
theorem dL_law_243 : decode cL_law 243 = .ok (.aload_n 0, 1) := by decide +kernel
theorem dL_law_244 : decode cL_law 244 = .ok (.iload_n 3, 1) := by decide +kernel
theorem dL_law_245 : decode cL_law 245 = .ok (.iconst 2, 1) := by decide +kernel
theorem dL_law_246 : decode cL_law 246 = .ok (.iadd, 1) := by decide +kernel
theorem dL_law_247 : decode cL_law 247 = .ok (.iaload, 1) := by decide +kernel
theorem dL_law_248 : decode cL_law 248 = .ok (.invokevirtual 22, 3) := by decide +kernel
theorem dL_law_251 : decode cL_law 251 = .ok (.if_icmp .eq 1090, 3) := by decide +kernel
theorem dL_law_254 : decode cL_law 254 = .ok (.iconst 0, 1) := by decide +kernel
theorem dL_law_255 : decode cL_law 255 = .ok (.ireturn, 1) := by decide +kernel
theorem dL_law_256 : decode cL_law 256 = .ok (.aload_n 1, 1) := by decide +kernel
theorem dL_law_257 : decode cL_law 257 = .ok (.aload_n 0, 1) := by decide +kernel
theorem dL_law_258 : decode cL_law 258 = .ok (.iload_n 3, 1) := by decide +kernel
theorem dL_law_259 : decode cL_law 259 = .ok (.iconst 1, 1) := by decide +kernel
theorem dL_law_260 : decode cL_law 260 = .ok (.iadd, 1) := by decide +kernel
theorem dL_law_261 : decode cL_law 261 = .ok (.iaload, 1) := by decide +kernel
theorem dL_law_262 : decode cL_law 262 = .ok (.aload_n 0, 1) := by decide +kernel
theorem dL_law_263 : decode cL_law 263 = .ok (.iload_n 3, 1) := by decide +kernel
theorem dL_law_264 : decode cL_law 264 = .ok (.iconst 2, 1) := by decide +kernel
theorem dL_law_265 : decode cL_law 265 = .ok (.iadd, 1) := by decide +kernel
theorem dL_law_266 : decode cL_law 266 = .ok (.iaload, 1) := by decide +kernel
theorem dL_law_267 : decode cL_law 267 = .ok (.invokevirtual 23, 3) := by decide +kernel
theorem dL_law_270 : decode cL_law 270 = .ok (.aload_n 2, 1) := by decide +kernel
theorem dL_law_271 : decode cL_law 271 = .ok (.aload_n 0, 1) := by decide +kernel
theorem dL_law_272 : decode cL_law 272 = .ok (.iload_n 3, 1) := by decide +kernel
theorem dL_law_273 : decode cL_law 273 = .ok (.iconst 1, 1) := by decide +kernel
theorem dL_law_274 : decode cL_law 274 = .ok (.iadd, 1) := by decide +kernel
theorem dL_law_275 : decode cL_law 275 = .ok (.iaload, 1) := by decide +kernel
theorem dL_law_276 : decode cL_law 276 = .ok (.aload_n 0, 1) := by decide +kernel
theorem dL_law_277 : decode cL_law 277 = .ok (.iload_n 3, 1) := by decide +kernel
theorem dL_law_278 : decode cL_law 278 = .ok (.iconst 2, 1) := by decide +kernel
theorem dL_law_279 : decode cL_law 279 = .ok (.iadd, 1) := by decide +kernel
theorem dL_law_280 : decode cL_law 280 = .ok (.iaload, 1) := by decide +kernel
theorem dL_law_281 : decode cL_law 281 = .ok (.invokevirtual 26, 3) := by decide +kernel
theorem dL_law_284 : decode cL_law 284 = .ok (.if_icmp .eq 1057, 3) := by decide +kernel
theorem dL_law_287 : decode cL_law 287 = .ok (.iconst 0, 1) := by decide +kernel
theorem dL_law_288 : decode cL_law 288 = .ok (.ireturn, 1) := by decide +kernel
theorem dL_law_289 : decode cL_law 289 = .ok (.aload_n 1, 1) := by decide +kernel
theorem dL_law_290 : decode cL_law 290 = .ok (.aload_n 0, 1) := by decide +kernel
theorem dL_law_291 : decode cL_law 291 = .ok (.iload_n 3, 1) := by decide +kernel
theorem dL_law_292 : decode cL_law 292 = .ok (.iconst 1, 1) := by decide +kernel
theorem dL_law_293 : decode cL_law 293 = .ok (.iadd, 1) := by decide +kernel
theorem dL_law_294 : decode cL_law 294 = .ok (.iaload, 1) := by decide +kernel
theorem dL_law_295 : decode cL_law 295 = .ok (.aload_n 0, 1) := by decide +kernel
theorem dL_law_296 : decode cL_law 296 = .ok (.iload_n 3, 1) := by decide +kernel
theorem dL_law_297 : decode cL_law 297 = .ok (.iconst 2, 1) := by decide +kernel
theorem dL_law_298 : decode cL_law 298 = .ok (.iadd, 1) := by decide +kernel
theorem dL_law_299 : decode cL_law 299 = .ok (.iaload, 1) := by decide +kernel
theorem dL_law_300 : decode cL_law 300 = .ok (.invokevirtual 27, 3) := by decide +kernel
theorem dL_law_303 : decode cL_law 303 = .ok (.aload_n 2, 1) := by decide +kernel
theorem dL_law_304 : decode cL_law 304 = .ok (.aload_n 0, 1) := by decide +kernel
theorem dL_law_305 : decode cL_law 305 = .ok (.iload_n 3, 1) := by decide +kernel
theorem dL_law_306 : decode cL_law 306 = .ok (.iconst 1, 1) := by decide +kernel
theorem dL_law_307 : decode cL_law 307 = .ok (.iadd, 1) := by decide +kernel
theorem dL_law_308 : decode cL_law 308 = .ok (.iaload, 1) := by decide +kernel
theorem dL_law_309 : decode cL_law 309 = .ok (.aload_n 0, 1) := by decide +kernel
theorem dL_law_310 : decode cL_law 310 = .ok (.iload_n 3, 1) := by decide +kernel
theorem dL_law_311 : decode cL_law 311 = .ok (.iconst 2, 1) := by decide +kernel
theorem dL_law_312 : decode cL_law 312 = .ok (.iadd, 1) := by decide +kernel
theorem dL_law_313 : decode cL_law 313 = .ok (.iaload, 1) := by decide +kernel
theorem dL_law_314 : decode cL_law 314 = .ok (.invokevirtual 30, 3) := by decide +kernel
theorem dL_law_317 : decode cL_law 317 = .ok (.if_icmp .eq 1024, 3) := by decide +kernel
theorem dL_law_320 : decode cL_law 320 = .ok (.iconst 0, 1) := by decide +kernel
theorem dL_law_321 : decode cL_law 321 = .ok (.ireturn, 1) := by decide +kernel
theorem dL_law_322 : decode cL_law 322 = .ok (.aload_n 1, 1) := by decide +kernel
theorem dL_law_323 : decode cL_law 323 = .ok (.aload_n 0, 1) := by decide +kernel
theorem dL_law_324 : decode cL_law 324 = .ok (.iload_n 3, 1) := by decide +kernel
theorem dL_law_325 : decode cL_law 325 = .ok (.iconst 1, 1) := by decide +kernel
theorem dL_law_326 : decode cL_law 326 = .ok (.iadd, 1) := by decide +kernel
theorem dL_law_327 : decode cL_law 327 = .ok (.iaload, 1) := by decide +kernel
theorem dL_law_328 : decode cL_law 328 = .ok (.invokevirtual 31, 3) := by decide +kernel
theorem dL_law_331 : decode cL_law 331 = .ok (.aload_n 2, 1) := by decide +kernel
theorem dL_law_332 : decode cL_law 332 = .ok (.aload_n 0, 1) := by decide +kernel
theorem dL_law_333 : decode cL_law 333 = .ok (.iload_n 3, 1) := by decide +kernel
theorem dL_law_334 : decode cL_law 334 = .ok (.iconst 1, 1) := by decide +kernel
theorem dL_law_335 : decode cL_law 335 = .ok (.iadd, 1) := by decide +kernel
theorem dL_law_336 : decode cL_law 336 = .ok (.iaload, 1) := by decide +kernel
theorem dL_law_337 : decode cL_law 337 = .ok (.invokevirtual 35, 3) := by decide +kernel
theorem dL_law_340 : decode cL_law 340 = .ok (.if_icmp .eq 1001, 3) := by decide +kernel
theorem dL_law_343 : decode cL_law 343 = .ok (.iconst 0, 1) := by decide +kernel
theorem dL_law_344 : decode cL_law 344 = .ok (.ireturn, 1) := by decide +kernel
theorem dL_law_345 : decode cL_law 345 = .ok (.aload_n 1, 1) := by decide +kernel
theorem dL_law_346 : decode cL_law 346 = .ok (.invokevirtual 36, 3) := by decide +kernel
theorem dL_law_349 : decode cL_law 349 = .ok (.aload_n 2, 1) := by decide +kernel
theorem dL_law_350 : decode cL_law 350 = .ok (.invokevirtual 40, 3) := by decide +kernel
theorem dL_law_353 : decode cL_law 353 = .ok (.if_icmp .eq 988, 3) := by decide +kernel
theorem dL_law_356 : decode cL_law 356 = .ok (.iconst 0, 1) := by decide +kernel
theorem dL_law_357 : decode cL_law 357 = .ok (.ireturn, 1) := by decide +kernel
theorem dL_law_358 : decode cL_law 358 = .ok (.aload_n 1, 1) := by decide +kernel
theorem dL_law_359 : decode cL_law 359 = .ok (.aload_n 0, 1) := by decide +kernel
theorem dL_law_360 : decode cL_law 360 = .ok (.iload_n 3, 1) := by decide +kernel
theorem dL_law_361 : decode cL_law 361 = .ok (.iconst 1, 1) := by decide +kernel
theorem dL_law_362 : decode cL_law 362 = .ok (.iadd, 1) := by decide +kernel
theorem dL_law_363 : decode cL_law 363 = .ok (.iaload, 1) := by decide +kernel
theorem dL_law_364 : decode cL_law 364 = .ok (.invokevirtual 41, 3) := by decide +kernel
theorem dL_law_367 : decode cL_law 367 = .ok (.aload_n 2, 1) := by decide +kernel
theorem dL_law_368 : decode cL_law 368 = .ok (.aload_n 0, 1) := by decide +kernel
theorem dL_law_369 : decode cL_law 369 = .ok (.iload_n 3, 1) := by decide +kernel
theorem dL_law_370 : decode cL_law 370 = .ok (.iconst 1, 1) := by decide +kernel
theorem dL_law_371 : decode cL_law 371 = .ok (.iadd, 1) := by decide +kernel
theorem dL_law_372 : decode cL_law 372 = .ok (.iaload, 1) := by decide +kernel
theorem dL_law_373 : decode cL_law 373 = .ok (.invokevirtual 44, 3) := by decide +kernel
theorem dL_law_376 : decode cL_law 376 = .ok (.if_icmp .eq 965, 3) := by decide +kernel
theorem dL_law_379 : decode cL_law 379 = .ok (.iconst 0, 1) := by decide +kernel
theorem dL_law_380 : decode cL_law 380 = .ok (.ireturn, 1) := by decide +kernel
theorem dL_law_381 : decode cL_law 381 = .ok (.aload_n 1, 1) := by decide +kernel
theorem dL_law_382 : decode cL_law 382 = .ok (.aload_n 0, 1) := by decide +kernel
theorem dL_law_383 : decode cL_law 383 = .ok (.iload_n 3, 1) := by decide +kernel
theorem dL_law_384 : decode cL_law 384 = .ok (.iconst 1, 1) := by decide +kernel
theorem dL_law_385 : decode cL_law 385 = .ok (.iadd, 1) := by decide +kernel
theorem dL_law_386 : decode cL_law 386 = .ok (.iaload, 1) := by decide +kernel
theorem dL_law_387 : decode cL_law 387 = .ok (.invokevirtual 45, 3) := by decide +kernel
theorem dL_law_390 : decode cL_law 390 = .ok (.aload_n 2, 1) := by decide +kernel
theorem dL_law_391 : decode cL_law 391 = .ok (.aload_n 0, 1) := by decide +kernel
theorem dL_law_392 : decode cL_law 392 = .ok (.iload_n 3, 1) := by decide +kernel
theorem dL_law_393 : decode cL_law 393 = .ok (.iconst 1, 1) := by decide +kernel
theorem dL_law_394 : decode cL_law 394 = .ok (.iadd, 1) := by decide +kernel
theorem dL_law_395 : decode cL_law 395 = .ok (.iaload, 1) := by decide +kernel
theorem dL_law_396 : decode cL_law 396 = .ok (.invokevirtual 48, 3) := by decide +kernel
theorem dL_law_399 : decode cL_law 399 = .ok (.if_icmp .eq 942, 3) := by decide +kernel
theorem dL_law_402 : decode cL_law 402 = .ok (.iconst 0, 1) := by decide +kernel
theorem dL_law_403 : decode cL_law 403 = .ok (.ireturn, 1) := by decide +kernel
theorem dL_law_404 : decode cL_law 404 = .ok (.aload_n 1, 1) := by decide +kernel
theorem dL_law_405 : decode cL_law 405 = .ok (.aload_n 0, 1) := by decide +kernel
theorem dL_law_406 : decode cL_law 406 = .ok (.iload_n 3, 1) := by decide +kernel
theorem dL_law_407 : decode cL_law 407 = .ok (.iconst 1, 1) := by decide +kernel
theorem dL_law_408 : decode cL_law 408 = .ok (.iadd, 1) := by decide +kernel
theorem dL_law_409 : decode cL_law 409 = .ok (.iaload, 1) := by decide +kernel
theorem dL_law_410 : decode cL_law 410 = .ok (.aload_n 0, 1) := by decide +kernel
theorem dL_law_411 : decode cL_law 411 = .ok (.iload_n 3, 1) := by decide +kernel
theorem dL_law_412 : decode cL_law 412 = .ok (.iconst 2, 1) := by decide +kernel
theorem dL_law_413 : decode cL_law 413 = .ok (.iadd, 1) := by decide +kernel
theorem dL_law_414 : decode cL_law 414 = .ok (.iaload, 1) := by decide +kernel
theorem dL_law_415 : decode cL_law 415 = .ok (.invokevirtual 49, 3) := by decide +kernel
theorem dL_law_418 : decode cL_law 418 = .ok (.aload_n 2, 1) := by decide +kernel
theorem dL_law_419 : decode cL_law 419 = .ok (.aload_n 0, 1) := by decide +kernel
theorem dL_law_420 : decode cL_law 420 = .ok (.iload_n 3, 1) := by decide +kernel
theorem dL_law_421 : decode cL_law 421 = .ok (.iconst 1, 1) := by decide +kernel
theorem dL_law_422 : decode cL_law 422 = .ok (.iadd, 1) := by decide +kernel
theorem dL_law_423 : decode cL_law 423 = .ok (.iaload, 1) := by decide +kernel
theorem dL_law_424 : decode cL_law 424 = .ok (.aload_n 0, 1) := by decide +kernel
theorem dL_law_425 : decode cL_law 425 = .ok (.iload_n 3, 1) := by decide +kernel
theorem dL_law_426 : decode cL_law 426 = .ok (.iconst 2, 1) := by decide +kernel
theorem dL_law_427 : decode cL_law 427 = .ok (.iadd, 1) := by decide +kernel
theorem dL_law_428 : decode cL_law 428 = .ok (.iaload, 1) := by decide +kernel
theorem dL_law_429 : decode cL_law 429 = .ok (.invokevirtual 52, 3) := by decide +kernel
theorem dL_law_432 : decode cL_law 432 = .ok (.if_icmp .eq 909, 3) := by decide +kernel
theorem dL_law_435 : decode cL_law 435 = .ok (.iconst 0, 1) := by decide +kernel
theorem dL_law_436 : decode cL_law 436 = .ok (.ireturn, 1) := by decide +kernel
theorem dL_law_437 : decode cL_law 437 = .ok (.aload_n 1, 1) := by decide +kernel
theorem dL_law_438 : decode cL_law 438 = .ok (.aload_n 0, 1) := by decide +kernel
theorem dL_law_439 : decode cL_law 439 = .ok (.iload_n 3, 1) := by decide +kernel
theorem dL_law_440 : decode cL_law 440 = .ok (.iconst 1, 1) := by decide +kernel
theorem dL_law_441 : decode cL_law 441 = .ok (.iadd, 1) := by decide +kernel
theorem dL_law_442 : decode cL_law 442 = .ok (.iaload, 1) := by decide +kernel
theorem dL_law_443 : decode cL_law 443 = .ok (.aload_n 0, 1) := by decide +kernel
theorem dL_law_444 : decode cL_law 444 = .ok (.iload_n 3, 1) := by decide +kernel
theorem dL_law_445 : decode cL_law 445 = .ok (.iconst 2, 1) := by decide +kernel
theorem dL_law_446 : decode cL_law 446 = .ok (.iadd, 1) := by decide +kernel
theorem dL_law_447 : decode cL_law 447 = .ok (.iaload, 1) := by decide +kernel
theorem dL_law_448 : decode cL_law 448 = .ok (.aload_n 0, 1) := by decide +kernel
theorem dL_law_449 : decode cL_law 449 = .ok (.iload_n 3, 1) := by decide +kernel
theorem dL_law_450 : decode cL_law 450 = .ok (.iconst 3, 1) := by decide +kernel
theorem dL_law_451 : decode cL_law 451 = .ok (.iadd, 1) := by decide +kernel
theorem dL_law_452 : decode cL_law 452 = .ok (.iaload, 1) := by decide +kernel
theorem dL_law_453 : decode cL_law 453 = .ok (.invokevirtual 53, 3) := by decide +kernel
theorem dL_law_456 : decode cL_law 456 = .ok (.aload_n 2, 1) := by decide +kernel
theorem dL_law_457 : decode cL_law 457 = .ok (.aload_n 0, 1) := by decide +kernel
theorem dL_law_458 : decode cL_law 458 = .ok (.iload_n 3, 1) := by decide +kernel
theorem dL_law_459 : decode cL_law 459 = .ok (.iconst 1, 1) := by decide +kernel
theorem dL_law_460 : decode cL_law 460 = .ok (.iadd, 1) := by decide +kernel
theorem dL_law_461 : decode cL_law 461 = .ok (.iaload, 1) := by decide +kernel
theorem dL_law_462 : decode cL_law 462 = .ok (.aload_n 0, 1) := by decide +kernel
theorem dL_law_463 : decode cL_law 463 = .ok (.iload_n 3, 1) := by decide +kernel
theorem dL_law_464 : decode cL_law 464 = .ok (.iconst 2, 1) := by decide +kernel
theorem dL_law_465 : decode cL_law 465 = .ok (.iadd, 1) := by decide +kernel
theorem dL_law_466 : decode cL_law 466 = .ok (.iaload, 1) := by decide +kernel
theorem dL_law_467 : decode cL_law 467 = .ok (.aload_n 0, 1) := by decide +kernel
theorem dL_law_468 : decode cL_law 468 = .ok (.iload_n 3, 1) := by decide +kernel
theorem dL_law_469 : decode cL_law 469 = .ok (.iconst 3, 1) := by decide +kernel
theorem dL_law_470 : decode cL_law 470 = .ok (.iadd, 1) := by decide +kernel
theorem dL_law_471 : decode cL_law 471 = .ok (.iaload, 1) := by decide +kernel
theorem dL_law_472 : decode cL_law 472 = .ok (.invokevirtual 56, 3) := by decide +kernel
theorem dL_law_475 : decode cL_law 475 = .ok (.if_icmp .eq 866, 3) := by decide +kernel
theorem dL_law_478 : decode cL_law 478 = .ok (.iconst 0, 1) := by decide +kernel
theorem dL_law_479 : decode cL_law 479 = .ok (.ireturn, 1) := by decide +kernel
theorem dL_law_480 : decode cL_law 480 = .ok (.aload_n 1, 1) := by decide +kernel
theorem dL_law_481 : decode cL_law 481 = .ok (.aload_n 0, 1) := by decide +kernel
theorem dL_law_482 : decode cL_law 482 = .ok (.iload_n 3, 1) := by decide +kernel
theorem dL_law_483 : decode cL_law 483 = .ok (.iconst 1, 1) := by decide +kernel
theorem dL_law_484 : decode cL_law 484 = .ok (.iadd, 1) := by decide +kernel
theorem dL_law_485 : decode cL_law 485 = .ok (.iaload, 1) := by decide +kernel
theorem dL_law_486 : decode cL_law 486 = .ok (.aload_n 0, 1) := by decide +kernel
theorem dL_law_487 : decode cL_law 487 = .ok (.iload_n 3, 1) := by decide +kernel
theorem dL_law_488 : decode cL_law 488 = .ok (.iconst 2, 1) := by decide +kernel
theorem dL_law_489 : decode cL_law 489 = .ok (.iadd, 1) := by decide +kernel
theorem dL_law_490 : decode cL_law 490 = .ok (.iaload, 1) := by decide +kernel
theorem dL_law_491 : decode cL_law 491 = .ok (.invokevirtual 57, 3) := by decide +kernel
theorem dL_law_494 : decode cL_law 494 = .ok (.aload_n 2, 1) := by decide +kernel
theorem dL_law_495 : decode cL_law 495 = .ok (.aload_n 0, 1) := by decide +kernel
theorem dL_law_496 : decode cL_law 496 = .ok (.iload_n 3, 1) := by decide +kernel
theorem dL_law_497 : decode cL_law 497 = .ok (.iconst 1, 1) := by decide +kernel
theorem dL_law_498 : decode cL_law 498 = .ok (.iadd, 1) := by decide +kernel
theorem dL_law_499 : decode cL_law 499 = .ok (.iaload, 1) := by decide +kernel
theorem dL_law_500 : decode cL_law 500 = .ok (.aload_n 0, 1) := by decide +kernel
theorem dL_law_501 : decode cL_law 501 = .ok (.iload_n 3, 1) := by decide +kernel
theorem dL_law_502 : decode cL_law 502 = .ok (.iconst 2, 1) := by decide +kernel
theorem dL_law_503 : decode cL_law 503 = .ok (.iadd, 1) := by decide +kernel
theorem dL_law_504 : decode cL_law 504 = .ok (.iaload, 1) := by decide +kernel
theorem dL_law_505 : decode cL_law 505 = .ok (.invokevirtual 60, 3) := by decide +kernel
theorem dL_law_508 : decode cL_law 508 = .ok (.if_icmp .eq 833, 3) := by decide +kernel
theorem dL_law_511 : decode cL_law 511 = .ok (.iconst 0, 1) := by decide +kernel
theorem dL_law_512 : decode cL_law 512 = .ok (.ireturn, 1) := by decide +kernel
theorem dL_law_513 : decode cL_law 513 = .ok (.aload_n 1, 1) := by decide +kernel
theorem dL_law_514 : decode cL_law 514 = .ok (.aload_n 0, 1) := by decide +kernel
theorem dL_law_515 : decode cL_law 515 = .ok (.iload_n 3, 1) := by decide +kernel
theorem dL_law_516 : decode cL_law 516 = .ok (.iconst 1, 1) := by decide +kernel
theorem dL_law_517 : decode cL_law 517 = .ok (.iadd, 1) := by decide +kernel
theorem dL_law_518 : decode cL_law 518 = .ok (.iaload, 1) := by decide +kernel
theorem dL_law_519 : decode cL_law 519 = .ok (.invokevirtual 61, 3) := by decide +kernel
theorem dL_law_522 : decode cL_law 522 = .ok (.aload_n 2, 1) := by decide +kernel
theorem dL_law_523 : decode cL_law 523 = .ok (.aload_n 0, 1) := by decide +kernel
theorem dL_law_524 : decode cL_law 524 = .ok (.iload_n 3, 1) := by decide +kernel
theorem dL_law_525 : decode cL_law 525 = .ok (.iconst 1, 1) := by decide +kernel
theorem dL_law_526 : decode cL_law 526 = .ok (.iadd, 1) := by decide +kernel
theorem dL_law_527 : decode cL_law 527 = .ok (.iaload, 1) := by decide +kernel
theorem dL_law_528 : decode cL_law 528 = .ok (.invokevirtual 64, 3) := by decide +kernel
theorem dL_law_531 : decode cL_law 531 = .ok (.if_icmp .eq 810, 3) := by decide +kernel
theorem dL_law_534 : decode cL_law 534 = .ok (.iconst 0, 1) := by decide +kernel
theorem dL_law_535 : decode cL_law 535 = .ok (.ireturn, 1) := by decide +kernel
theorem dL_law_536 : decode cL_law 536 = .ok (.aload_n 1, 1) := by decide +kernel
theorem dL_law_537 : decode cL_law 537 = .ok (.invokevirtual 65, 3) := by decide +kernel
theorem dL_law_540 : decode cL_law 540 = .ok (.aload_n 2, 1) := by decide +kernel
theorem dL_law_541 : decode cL_law 541 = .ok (.invokevirtual 68, 3) := by decide +kernel
theorem dL_law_544 : decode cL_law 544 = .ok (.if_icmp .eq 797, 3) := by decide +kernel
theorem dL_law_547 : decode cL_law 547 = .ok (.iconst 0, 1) := by decide +kernel
theorem dL_law_548 : decode cL_law 548 = .ok (.ireturn, 1) := by decide +kernel
theorem dL_law_549 : decode cL_law 549 = .ok (.aload_n 1, 1) := by decide +kernel
theorem dL_law_550 : decode cL_law 550 = .ok (.aload_n 0, 1) := by decide +kernel
theorem dL_law_551 : decode cL_law 551 = .ok (.iload_n 3, 1) := by decide +kernel
theorem dL_law_552 : decode cL_law 552 = .ok (.iconst 1, 1) := by decide +kernel
theorem dL_law_553 : decode cL_law 553 = .ok (.iadd, 1) := by decide +kernel
theorem dL_law_554 : decode cL_law 554 = .ok (.iaload, 1) := by decide +kernel
theorem dL_law_555 : decode cL_law 555 = .ok (.invokevirtual 69, 3) := by decide +kernel
theorem dL_law_558 : decode cL_law 558 = .ok (.aload_n 2, 1) := by decide +kernel
theorem dL_law_559 : decode cL_law 559 = .ok (.aload_n 0, 1) := by decide +kernel
theorem dL_law_560 : decode cL_law 560 = .ok (.iload_n 3, 1) := by decide +kernel
theorem dL_law_561 : decode cL_law 561 = .ok (.iconst 1, 1) := by decide +kernel
theorem dL_law_562 : decode cL_law 562 = .ok (.iadd, 1) := by decide +kernel
theorem dL_law_563 : decode cL_law 563 = .ok (.iaload, 1) := by decide +kernel
theorem dL_law_564 : decode cL_law 564 = .ok (.invokevirtual 72, 3) := by decide +kernel
theorem dL_law_567 : decode cL_law 567 = .ok (.if_icmp .eq 774, 3) := by decide +kernel
theorem dL_law_570 : decode cL_law 570 = .ok (.iconst 0, 1) := by decide +kernel
theorem dL_law_571 : decode cL_law 571 = .ok (.ireturn, 1) := by decide +kernel
theorem dL_law_572 : decode cL_law 572 = .ok (.aload_n 1, 1) := by decide +kernel
theorem dL_law_573 : decode cL_law 573 = .ok (.aload_n 0, 1) := by decide +kernel
theorem dL_law_574 : decode cL_law 574 = .ok (.iload_n 3, 1) := by decide +kernel
theorem dL_law_575 : decode cL_law 575 = .ok (.iconst 1, 1) := by decide +kernel
theorem dL_law_576 : decode cL_law 576 = .ok (.iadd, 1) := by decide +kernel
theorem dL_law_577 : decode cL_law 577 = .ok (.iaload, 1) := by decide +kernel
theorem dL_law_578 : decode cL_law 578 = .ok (.aload_n 0, 1) := by decide +kernel
theorem dL_law_579 : decode cL_law 579 = .ok (.iload_n 3, 1) := by decide +kernel
theorem dL_law_580 : decode cL_law 580 = .ok (.iconst 2, 1) := by decide +kernel
theorem dL_law_581 : decode cL_law 581 = .ok (.iadd, 1) := by decide +kernel
theorem dL_law_582 : decode cL_law 582 = .ok (.iaload, 1) := by decide +kernel
theorem dL_law_583 : decode cL_law 583 = .ok (.invokevirtual 73, 3) := by decide +kernel
theorem dL_law_586 : decode cL_law 586 = .ok (.aload_n 2, 1) := by decide +kernel
theorem dL_law_587 : decode cL_law 587 = .ok (.aload_n 0, 1) := by decide +kernel
theorem dL_law_588 : decode cL_law 588 = .ok (.iload_n 3, 1) := by decide +kernel
theorem dL_law_589 : decode cL_law 589 = .ok (.iconst 1, 1) := by decide +kernel
theorem dL_law_590 : decode cL_law 590 = .ok (.iadd, 1) := by decide +kernel
theorem dL_law_591 : decode cL_law 591 = .ok (.iaload, 1) := by decide +kernel
theorem dL_law_592 : decode cL_law 592 = .ok (.aload_n 0, 1) := by decide +kernel
theorem dL_law_593 : decode cL_law 593 = .ok (.iload_n 3, 1) := by decide +kernel
theorem dL_law_594 : decode cL_law 594 = .ok (.iconst 2, 1) := by decide +kernel
theorem dL_law_595 : decode cL_law 595 = .ok (.iadd, 1) := by decide +kernel
theorem dL_law_596 : decode cL_law 596 = .ok (.iaload, 1) := by decide +kernel
theorem dL_law_597 : decode cL_law 597 = .ok (.invokevirtual 76, 3) := by decide +kernel
theorem dL_law_600 : decode cL_law 600 = .ok (.if_icmp .eq 741, 3) := by decide +kernel
theorem dL_law_603 : decode cL_law 603 = .ok (.iconst 0, 1) := by decide +kernel
theorem dL_law_604 : decode cL_law 604 = .ok (.ireturn, 1) := by decide +kernel
theorem dL_law_605 : decode cL_law 605 = .ok (.aload_n 1, 1) := by decide +kernel
theorem dL_law_606 : decode cL_law 606 = .ok (.aload_n 0, 1) := by decide +kernel
theorem dL_law_607 : decode cL_law 607 = .ok (.iload_n 3, 1) := by decide +kernel
theorem dL_law_608 : decode cL_law 608 = .ok (.iconst 1, 1) := by decide +kernel
theorem dL_law_609 : decode cL_law 609 = .ok (.iadd, 1) := by decide +kernel
theorem dL_law_610 : decode cL_law 610 = .ok (.iaload, 1) := by decide +kernel
theorem dL_law_611 : decode cL_law 611 = .ok (.aload_n 0, 1) := by decide +kernel
theorem dL_law_612 : decode cL_law 612 = .ok (.iload_n 3, 1) := by decide +kernel
theorem dL_law_613 : decode cL_law 613 = .ok (.iconst 2, 1) := by decide +kernel
theorem dL_law_614 : decode cL_law 614 = .ok (.iadd, 1) := by decide +kernel
theorem dL_law_615 : decode cL_law 615 = .ok (.iaload, 1) := by decide +kernel
theorem dL_law_616 : decode cL_law 616 = .ok (.invokevirtual 77, 3) := by decide +kernel
theorem dL_law_619 : decode cL_law 619 = .ok (.aload_n 2, 1) := by decide +kernel
theorem dL_law_620 : decode cL_law 620 = .ok (.aload_n 0, 1) := by decide +kernel
theorem dL_law_621 : decode cL_law 621 = .ok (.iload_n 3, 1) := by decide +kernel
theorem dL_law_622 : decode cL_law 622 = .ok (.iconst 1, 1) := by decide +kernel
theorem dL_law_623 : decode cL_law 623 = .ok (.iadd, 1) := by decide +kernel
theorem dL_law_624 : decode cL_law 624 = .ok (.iaload, 1) := by decide +kernel
theorem dL_law_625 : decode cL_law 625 = .ok (.aload_n 0, 1) := by decide +kernel
theorem dL_law_626 : decode cL_law 626 = .ok (.iload_n 3, 1) := by decide +kernel
theorem dL_law_627 : decode cL_law 627 = .ok (.iconst 2, 1) := by decide +kernel
theorem dL_law_628 : decode cL_law 628 = .ok (.iadd, 1) := by decide +kernel
theorem dL_law_629 : decode cL_law 629 = .ok (.iaload, 1) := by decide +kernel
theorem dL_law_630 : decode cL_law 630 = .ok (.invokevirtual 80, 3) := by decide +kernel
theorem dL_law_633 : decode cL_law 633 = .ok (.if_icmp .eq 708, 3) := by decide +kernel
theorem dL_law_636 : decode cL_law 636 = .ok (.iconst 0, 1) := by decide +kernel
theorem dL_law_637 : decode cL_law 637 = .ok (.ireturn, 1) := by decide +kernel
theorem dL_law_638 : decode cL_law 638 = .ok (.aload_n 1, 1) := by decide +kernel
theorem dL_law_639 : decode cL_law 639 = .ok (.aload_n 0, 1) := by decide +kernel
theorem dL_law_640 : decode cL_law 640 = .ok (.iload_n 3, 1) := by decide +kernel
theorem dL_law_641 : decode cL_law 641 = .ok (.iconst 1, 1) := by decide +kernel
theorem dL_law_642 : decode cL_law 642 = .ok (.iadd, 1) := by decide +kernel
theorem dL_law_643 : decode cL_law 643 = .ok (.iaload, 1) := by decide +kernel
theorem dL_law_644 : decode cL_law 644 = .ok (.aload_n 0, 1) := by decide +kernel
theorem dL_law_645 : decode cL_law 645 = .ok (.iload_n 3, 1) := by decide +kernel
theorem dL_law_646 : decode cL_law 646 = .ok (.iconst 2, 1) := by decide +kernel
theorem dL_law_647 : decode cL_law 647 = .ok (.iadd, 1) := by decide +kernel
theorem dL_law_648 : decode cL_law 648 = .ok (.iaload, 1) := by decide +kernel
theorem dL_law_649 : decode cL_law 649 = .ok (.invokevirtual 81, 3) := by decide +kernel
theorem dL_law_652 : decode cL_law 652 = .ok (.aload_n 2, 1) := by decide +kernel
theorem dL_law_653 : decode cL_law 653 = .ok (.aload_n 0, 1) := by decide +kernel
theorem dL_law_654 : decode cL_law 654 = .ok (.iload_n 3, 1) := by decide +kernel
theorem dL_law_655 : decode cL_law 655 = .ok (.iconst 1, 1) := by decide +kernel
theorem dL_law_656 : decode cL_law 656 = .ok (.iadd, 1) := by decide +kernel
theorem dL_law_657 : decode cL_law 657 = .ok (.iaload, 1) := by decide +kernel
theorem dL_law_658 : decode cL_law 658 = .ok (.aload_n 0, 1) := by decide +kernel
theorem dL_law_659 : decode cL_law 659 = .ok (.iload_n 3, 1) := by decide +kernel
theorem dL_law_660 : decode cL_law 660 = .ok (.iconst 2, 1) := by decide +kernel
theorem dL_law_661 : decode cL_law 661 = .ok (.iadd, 1) := by decide +kernel
theorem dL_law_662 : decode cL_law 662 = .ok (.iaload, 1) := by decide +kernel
theorem dL_law_663 : decode cL_law 663 = .ok (.invokevirtual 84, 3) := by decide +kernel
theorem dL_law_666 : decode cL_law 666 = .ok (.if_icmp .eq 675, 3) := by decide +kernel
theorem dL_law_669 : decode cL_law 669 = .ok (.iconst 0, 1) := by decide +kernel
theorem dL_law_670 : decode cL_law 670 = .ok (.ireturn, 1) := by decide +kernel
theorem dL_law_671 : decode cL_law 671 = .ok (.aload_n 1, 1) := by decide +kernel
theorem dL_law_672 : decode cL_law 672 = .ok (.aload_n 0, 1) := by decide +kernel
theorem dL_law_673 : decode cL_law 673 = .ok (.iload_n 3, 1) := by decide +kernel
theorem dL_law_674 : decode cL_law 674 = .ok (.iconst 1, 1) := by decide +kernel
theorem dL_law_675 : decode cL_law 675 = .ok (.iadd, 1) := by decide +kernel
theorem dL_law_676 : decode cL_law 676 = .ok (.iaload, 1) := by decide +kernel
theorem dL_law_677 : decode cL_law 677 = .ok (.invokevirtual 85, 3) := by decide +kernel
theorem dL_law_680 : decode cL_law 680 = .ok (.aload_n 2, 1) := by decide +kernel
theorem dL_law_681 : decode cL_law 681 = .ok (.aload_n 0, 1) := by decide +kernel
theorem dL_law_682 : decode cL_law 682 = .ok (.iload_n 3, 1) := by decide +kernel
theorem dL_law_683 : decode cL_law 683 = .ok (.iconst 1, 1) := by decide +kernel
theorem dL_law_684 : decode cL_law 684 = .ok (.iadd, 1) := by decide +kernel
theorem dL_law_685 : decode cL_law 685 = .ok (.iaload, 1) := by decide +kernel
theorem dL_law_686 : decode cL_law 686 = .ok (.invokevirtual 88, 3) := by decide +kernel
theorem dL_law_689 : decode cL_law 689 = .ok (.if_icmp .eq 652, 3) := by decide +kernel
theorem dL_law_692 : decode cL_law 692 = .ok (.iconst 0, 1) := by decide +kernel
theorem dL_law_693 : decode cL_law 693 = .ok (.ireturn, 1) := by decide +kernel
theorem dL_law_694 : decode cL_law 694 = .ok (.aload_n 1, 1) := by decide +kernel
theorem dL_law_695 : decode cL_law 695 = .ok (.aload_n 0, 1) := by decide +kernel
theorem dL_law_696 : decode cL_law 696 = .ok (.iload_n 3, 1) := by decide +kernel
theorem dL_law_697 : decode cL_law 697 = .ok (.iconst 1, 1) := by decide +kernel
theorem dL_law_698 : decode cL_law 698 = .ok (.iadd, 1) := by decide +kernel
theorem dL_law_699 : decode cL_law 699 = .ok (.iaload, 1) := by decide +kernel
theorem dL_law_700 : decode cL_law 700 = .ok (.aload_n 0, 1) := by decide +kernel
theorem dL_law_701 : decode cL_law 701 = .ok (.iload_n 3, 1) := by decide +kernel
theorem dL_law_702 : decode cL_law 702 = .ok (.iconst 2, 1) := by decide +kernel
theorem dL_law_703 : decode cL_law 703 = .ok (.iadd, 1) := by decide +kernel
theorem dL_law_704 : decode cL_law 704 = .ok (.iaload, 1) := by decide +kernel
theorem dL_law_705 : decode cL_law 705 = .ok (.invokevirtual 89, 3) := by decide +kernel
theorem dL_law_708 : decode cL_law 708 = .ok (.aload_n 2, 1) := by decide +kernel
theorem dL_law_709 : decode cL_law 709 = .ok (.aload_n 0, 1) := by decide +kernel
theorem dL_law_710 : decode cL_law 710 = .ok (.iload_n 3, 1) := by decide +kernel
theorem dL_law_711 : decode cL_law 711 = .ok (.iconst 1, 1) := by decide +kernel
theorem dL_law_712 : decode cL_law 712 = .ok (.iadd, 1) := by decide +kernel
theorem dL_law_713 : decode cL_law 713 = .ok (.iaload, 1) := by decide +kernel
theorem dL_law_714 : decode cL_law 714 = .ok (.aload_n 0, 1) := by decide +kernel
theorem dL_law_715 : decode cL_law 715 = .ok (.iload_n 3, 1) := by decide +kernel
theorem dL_law_716 : decode cL_law 716 = .ok (.iconst 2, 1) := by decide +kernel
theorem dL_law_717 : decode cL_law 717 = .ok (.iadd, 1) := by decide +kernel
theorem dL_law_718 : decode cL_law 718 = .ok (.iaload, 1) := by decide +kernel
theorem dL_law_719 : decode cL_law 719 = .ok (.invokevirtual 92, 3) := by decide +kernel
theorem dL_law_722 : decode cL_law 722 = .ok (.if_icmp .eq 619, 3) := by decide +kernel
theorem dL_law_725 : decode cL_law 725 = .ok (.iconst 0, 1) := by decide +kernel
theorem dL_law_726 : decode cL_law 726 = .ok (.ireturn, 1) := by decide +kernel
theorem dL_law_727 : decode cL_law 727 = .ok (.aload_n 1, 1) := by decide +kernel
theorem dL_law_728 : decode cL_law 728 = .ok (.aload_n 0, 1) := by decide +kernel
theorem dL_law_729 : decode cL_law 729 = .ok (.iload_n 3, 1) := by decide +kernel
theorem dL_law_730 : decode cL_law 730 = .ok (.iconst 1, 1) := by decide +kernel
theorem dL_law_731 : decode cL_law 731 = .ok (.iadd, 1) := by decide +kernel
theorem dL_law_732 : decode cL_law 732 = .ok (.iaload, 1) := by decide +kernel
theorem dL_law_733 : decode cL_law 733 = .ok (.aload_n 0, 1) := by decide +kernel
theorem dL_law_734 : decode cL_law 734 = .ok (.iload_n 3, 1) := by decide +kernel
theorem dL_law_735 : decode cL_law 735 = .ok (.iconst 2, 1) := by decide +kernel
theorem dL_law_736 : decode cL_law 736 = .ok (.iadd, 1) := by decide +kernel
theorem dL_law_737 : decode cL_law 737 = .ok (.iaload, 1) := by decide +kernel
theorem dL_law_738 : decode cL_law 738 = .ok (.invokevirtual 93, 3) := by decide +kernel
theorem dL_law_741 : decode cL_law 741 = .ok (.aload_n 2, 1) := by decide +kernel
theorem dL_law_742 : decode cL_law 742 = .ok (.aload_n 0, 1) := by decide +kernel
theorem dL_law_743 : decode cL_law 743 = .ok (.iload_n 3, 1) := by decide +kernel
theorem dL_law_744 : decode cL_law 744 = .ok (.iconst 1, 1) := by decide +kernel
theorem dL_law_745 : decode cL_law 745 = .ok (.iadd, 1) := by decide +kernel
theorem dL_law_746 : decode cL_law 746 = .ok (.iaload, 1) := by decide +kernel
theorem dL_law_747 : decode cL_law 747 = .ok (.aload_n 0, 1) := by decide +kernel
theorem dL_law_748 : decode cL_law 748 = .ok (.iload_n 3, 1) := by decide +kernel
theorem dL_law_749 : decode cL_law 749 = .ok (.iconst 2, 1) := by decide +kernel
theorem dL_law_750 : decode cL_law 750 = .ok (.iadd, 1) := by decide +kernel
theorem dL_law_751 : decode cL_law 751 = .ok (.iaload, 1) := by decide +kernel
theorem dL_law_752 : decode cL_law 752 = .ok (.invokevirtual 96, 3) := by decide +kernel
theorem dL_law_755 : decode cL_law 755 = .ok (.if_icmp .eq 586, 3) := by decide +kernel
theorem dL_law_758 : decode cL_law 758 = .ok (.iconst 0, 1) := by decide +kernel
theorem dL_law_759 : decode cL_law 759 = .ok (.ireturn, 1) := by decide +kernel
theorem dL_law_760 : decode cL_law 760 = .ok (.aload_n 1, 1) := by decide +kernel
theorem dL_law_761 : decode cL_law 761 = .ok (.aload_n 0, 1) := by decide +kernel
theorem dL_law_762 : decode cL_law 762 = .ok (.iload_n 3, 1) := by decide +kernel
theorem dL_law_763 : decode cL_law 763 = .ok (.iconst 1, 1) := by decide +kernel
theorem dL_law_764 : decode cL_law 764 = .ok (.iadd, 1) := by decide +kernel
theorem dL_law_765 : decode cL_law 765 = .ok (.iaload, 1) := by decide +kernel
theorem dL_law_766 : decode cL_law 766 = .ok (.aload_n 0, 1) := by decide +kernel
theorem dL_law_767 : decode cL_law 767 = .ok (.iload_n 3, 1) := by decide +kernel
theorem dL_law_768 : decode cL_law 768 = .ok (.iconst 2, 1) := by decide +kernel
theorem dL_law_769 : decode cL_law 769 = .ok (.iadd, 1) := by decide +kernel
theorem dL_law_770 : decode cL_law 770 = .ok (.iaload, 1) := by decide +kernel
theorem dL_law_771 : decode cL_law 771 = .ok (.invokevirtual 97, 3) := by decide +kernel
theorem dL_law_774 : decode cL_law 774 = .ok (.aload_n 2, 1) := by decide +kernel
theorem dL_law_775 : decode cL_law 775 = .ok (.aload_n 0, 1) := by decide +kernel
theorem dL_law_776 : decode cL_law 776 = .ok (.iload_n 3, 1) := by decide +kernel
theorem dL_law_777 : decode cL_law 777 = .ok (.iconst 1, 1) := by decide +kernel
theorem dL_law_778 : decode cL_law 778 = .ok (.iadd, 1) := by decide +kernel
theorem dL_law_779 : decode cL_law 779 = .ok (.iaload, 1) := by decide +kernel
theorem dL_law_780 : decode cL_law 780 = .ok (.aload_n 0, 1) := by decide +kernel
theorem dL_law_781 : decode cL_law 781 = .ok (.iload_n 3, 1) := by decide +kernel
theorem dL_law_782 : decode cL_law 782 = .ok (.iconst 2, 1) := by decide +kernel
theorem dL_law_783 : decode cL_law 783 = .ok (.iadd, 1) := by decide +kernel
theorem dL_law_784 : decode cL_law 784 = .ok (.iaload, 1) := by decide +kernel
theorem dL_law_785 : decode cL_law 785 = .ok (.invokevirtual 100, 3) := by decide +kernel
theorem dL_law_788 : decode cL_law 788 = .ok (.if_icmp .eq 553, 3) := by decide +kernel
theorem dL_law_791 : decode cL_law 791 = .ok (.iconst 0, 1) := by decide +kernel
theorem dL_law_792 : decode cL_law 792 = .ok (.ireturn, 1) := by decide +kernel
theorem dL_law_793 : decode cL_law 793 = .ok (.aload_n 1, 1) := by decide +kernel
theorem dL_law_794 : decode cL_law 794 = .ok (.aload_n 0, 1) := by decide +kernel
theorem dL_law_795 : decode cL_law 795 = .ok (.iload_n 3, 1) := by decide +kernel
theorem dL_law_796 : decode cL_law 796 = .ok (.iconst 1, 1) := by decide +kernel
theorem dL_law_797 : decode cL_law 797 = .ok (.iadd, 1) := by decide +kernel
theorem dL_law_798 : decode cL_law 798 = .ok (.iaload, 1) := by decide +kernel
theorem dL_law_799 : decode cL_law 799 = .ok (.aload_n 0, 1) := by decide +kernel
theorem dL_law_800 : decode cL_law 800 = .ok (.iload_n 3, 1) := by decide +kernel
theorem dL_law_801 : decode cL_law 801 = .ok (.iconst 2, 1) := by decide +kernel
theorem dL_law_802 : decode cL_law 802 = .ok (.iadd, 1) := by decide +kernel
theorem dL_law_803 : decode cL_law 803 = .ok (.iaload, 1) := by decide +kernel
theorem dL_law_804 : decode cL_law 804 = .ok (.invokevirtual 101, 3) := by decide +kernel
theorem dL_law_807 : decode cL_law 807 = .ok (.aload_n 2, 1) := by decide +kernel
theorem dL_law_808 : decode cL_law 808 = .ok (.aload_n 0, 1) := by decide +kernel
theorem dL_law_809 : decode cL_law 809 = .ok (.iload_n 3, 1) := by decide +kernel
theorem dL_law_810 : decode cL_law 810 = .ok (.iconst 1, 1) := by decide +kernel
theorem dL_law_811 : decode cL_law 811 = .ok (.iadd, 1) := by decide +kernel
theorem dL_law_812 : decode cL_law 812 = .ok (.iaload, 1) := by decide +kernel
theorem dL_law_813 : decode cL_law 813 = .ok (.aload_n 0, 1) := by decide +kernel
theorem dL_law_814 : decode cL_law 814 = .ok (.iload_n 3, 1) := by decide +kernel
theorem dL_law_815 : decode cL_law 815 = .ok (.iconst 2, 1) := by decide +kernel
theorem dL_law_816 : decode cL_law 816 = .ok (.iadd, 1) := by decide +kernel
theorem dL_law_817 : decode cL_law 817 = .ok (.iaload, 1) := by decide +kernel
theorem dL_law_818 : decode cL_law 818 = .ok (.invokevirtual 104, 3) := by decide +kernel
theorem dL_law_821 : decode cL_law 821 = .ok (.if_icmp .eq 520, 3) := by decide +kernel
theorem dL_law_824 : decode cL_law 824 = .ok (.iconst 0, 1) := by decide +kernel
theorem dL_law_825 : decode cL_law 825 = .ok (.ireturn, 1) := by decide +kernel
theorem dL_law_826 : decode cL_law 826 = .ok (.aload_n 1, 1) := by decide +kernel
theorem dL_law_827 : decode cL_law 827 = .ok (.aload_n 0, 1) := by decide +kernel
theorem dL_law_828 : decode cL_law 828 = .ok (.iload_n 3, 1) := by decide +kernel
theorem dL_law_829 : decode cL_law 829 = .ok (.iconst 1, 1) := by decide +kernel
theorem dL_law_830 : decode cL_law 830 = .ok (.iadd, 1) := by decide +kernel
theorem dL_law_831 : decode cL_law 831 = .ok (.iaload, 1) := by decide +kernel
theorem dL_law_832 : decode cL_law 832 = .ok (.aload_n 0, 1) := by decide +kernel
theorem dL_law_833 : decode cL_law 833 = .ok (.iload_n 3, 1) := by decide +kernel
theorem dL_law_834 : decode cL_law 834 = .ok (.iconst 2, 1) := by decide +kernel
theorem dL_law_835 : decode cL_law 835 = .ok (.iadd, 1) := by decide +kernel
theorem dL_law_836 : decode cL_law 836 = .ok (.iaload, 1) := by decide +kernel
theorem dL_law_837 : decode cL_law 837 = .ok (.invokevirtual 105, 3) := by decide +kernel
theorem dL_law_840 : decode cL_law 840 = .ok (.aload_n 2, 1) := by decide +kernel
theorem dL_law_841 : decode cL_law 841 = .ok (.aload_n 0, 1) := by decide +kernel
theorem dL_law_842 : decode cL_law 842 = .ok (.iload_n 3, 1) := by decide +kernel
theorem dL_law_843 : decode cL_law 843 = .ok (.iconst 1, 1) := by decide +kernel
theorem dL_law_844 : decode cL_law 844 = .ok (.iadd, 1) := by decide +kernel
theorem dL_law_845 : decode cL_law 845 = .ok (.iaload, 1) := by decide +kernel
theorem dL_law_846 : decode cL_law 846 = .ok (.aload_n 0, 1) := by decide +kernel
theorem dL_law_847 : decode cL_law 847 = .ok (.iload_n 3, 1) := by decide +kernel
theorem dL_law_848 : decode cL_law 848 = .ok (.iconst 2, 1) := by decide +kernel
theorem dL_law_849 : decode cL_law 849 = .ok (.iadd, 1) := by decide +kernel
theorem dL_law_850 : decode cL_law 850 = .ok (.iaload, 1) := by decide +kernel
theorem dL_law_851 : decode cL_law 851 = .ok (.invokevirtual 108, 3) := by decide +kernel
theorem dL_law_854 : decode cL_law 854 = .ok (.if_icmp .eq 487, 3) := by decide +kernel
theorem dL_law_857 : decode cL_law 857 = .ok (.iconst 0, 1) := by decide +kernel
theorem dL_law_858 : decode cL_law 858 = .ok (.ireturn, 1) := by decide +kernel
theorem dL_law_859 : decode cL_law 859 = .ok (.aload_n 1, 1) := by decide +kernel
theorem dL_law_860 : decode cL_law 860 = .ok (.aload_n 0, 1) := by decide +kernel
theorem dL_law_861 : decode cL_law 861 = .ok (.iload_n 3, 1) := by decide +kernel
theorem dL_law_862 : decode cL_law 862 = .ok (.iconst 1, 1) := by decide +kernel
theorem dL_law_863 : decode cL_law 863 = .ok (.iadd, 1) := by decide +kernel
theorem dL_law_864 : decode cL_law 864 = .ok (.iaload, 1) := by decide +kernel
theorem dL_law_865 : decode cL_law 865 = .ok (.aload_n 0, 1) := by decide +kernel
theorem dL_law_866 : decode cL_law 866 = .ok (.iload_n 3, 1) := by decide +kernel
theorem dL_law_867 : decode cL_law 867 = .ok (.iconst 2, 1) := by decide +kernel
theorem dL_law_868 : decode cL_law 868 = .ok (.iadd, 1) := by decide +kernel
theorem dL_law_869 : decode cL_law 869 = .ok (.iaload, 1) := by decide +kernel
theorem dL_law_870 : decode cL_law 870 = .ok (.aload_n 0, 1) := by decide +kernel
theorem dL_law_871 : decode cL_law 871 = .ok (.iload_n 3, 1) := by decide +kernel
theorem dL_law_872 : decode cL_law 872 = .ok (.iconst 3, 1) := by decide +kernel
theorem dL_law_873 : decode cL_law 873 = .ok (.iadd, 1) := by decide +kernel
theorem dL_law_874 : decode cL_law 874 = .ok (.iaload, 1) := by decide +kernel
theorem dL_law_875 : decode cL_law 875 = .ok (.invokevirtual 109, 3) := by decide +kernel
theorem dL_law_878 : decode cL_law 878 = .ok (.aload_n 2, 1) := by decide +kernel
theorem dL_law_879 : decode cL_law 879 = .ok (.aload_n 0, 1) := by decide +kernel
theorem dL_law_880 : decode cL_law 880 = .ok (.iload_n 3, 1) := by decide +kernel
theorem dL_law_881 : decode cL_law 881 = .ok (.iconst 1, 1) := by decide +kernel
theorem dL_law_882 : decode cL_law 882 = .ok (.iadd, 1) := by decide +kernel
theorem dL_law_883 : decode cL_law 883 = .ok (.iaload, 1) := by decide +kernel
theorem dL_law_884 : decode cL_law 884 = .ok (.aload_n 0, 1) := by decide +kernel
theorem dL_law_885 : decode cL_law 885 = .ok (.iload_n 3, 1) := by decide +kernel
theorem dL_law_886 : decode cL_law 886 = .ok (.iconst 2, 1) := by decide +kernel
theorem dL_law_887 : decode cL_law 887 = .ok (.iadd, 1) := by decide +kernel
theorem dL_law_888 : decode cL_law 888 = .ok (.iaload, 1) := by decide +kernel
theorem dL_law_889 : decode cL_law 889 = .ok (.aload_n 0, 1) := by decide +kernel
theorem dL_law_890 : decode cL_law 890 = .ok (.iload_n 3, 1) := by decide +kernel
theorem dL_law_891 : decode cL_law 891 = .ok (.iconst 3, 1) := by decide +kernel
theorem dL_law_892 : decode cL_law 892 = .ok (.iadd, 1) := by decide +kernel
theorem dL_law_893 : decode cL_law 893 = .ok (.iaload, 1) := by decide +kernel
theorem dL_law_894 : decode cL_law 894 = .ok (.invokevirtual 112, 3) := by decide +kernel
theorem dL_law_897 : decode cL_law 897 = .ok (.if_icmp .eq 444, 3) := by decide +kernel
theorem dL_law_900 : decode cL_law 900 = .ok (.iconst 0, 1) := by decide +kernel
theorem dL_law_901 : decode cL_law 901 = .ok (.ireturn, 1) := by decide +kernel
theorem dL_law_902 : decode cL_law 902 = .ok (.aload_n 1, 1) := by decide +kernel
theorem dL_law_903 : decode cL_law 903 = .ok (.invokevirtual 113, 3) := by decide +kernel
theorem dL_law_906 : decode cL_law 906 = .ok (.aload_n 2, 1) := by decide +kernel
theorem dL_law_907 : decode cL_law 907 = .ok (.invokevirtual 116, 3) := by decide +kernel
theorem dL_law_910 : decode cL_law 910 = .ok (.if_icmp .eq 431, 3) := by decide +kernel
theorem dL_law_913 : decode cL_law 913 = .ok (.iconst 0, 1) := by decide +kernel
theorem dL_law_914 : decode cL_law 914 = .ok (.ireturn, 1) := by decide +kernel
theorem dL_law_915 : decode cL_law 915 = .ok (.aload_n 1, 1) := by decide +kernel
theorem dL_law_916 : decode cL_law 916 = .ok (.invokevirtual 117, 3) := by decide +kernel
theorem dL_law_919 : decode cL_law 919 = .ok (.aload_n 2, 1) := by decide +kernel
theorem dL_law_920 : decode cL_law 920 = .ok (.invokevirtual 120, 3) := by decide +kernel
theorem dL_law_923 : decode cL_law 923 = .ok (.if_icmp .eq 418, 3) := by decide +kernel
theorem dL_law_926 : decode cL_law 926 = .ok (.iconst 0, 1) := by decide +kernel
theorem dL_law_927 : decode cL_law 927 = .ok (.ireturn, 1) := by decide +kernel
theorem dL_law_928 : decode cL_law 928 = .ok (.aload_n 1, 1) := by decide +kernel
theorem dL_law_929 : decode cL_law 929 = .ok (.aload_n 0, 1) := by decide +kernel
theorem dL_law_930 : decode cL_law 930 = .ok (.iload_n 3, 1) := by decide +kernel
theorem dL_law_931 : decode cL_law 931 = .ok (.iconst 1, 1) := by decide +kernel
theorem dL_law_932 : decode cL_law 932 = .ok (.iadd, 1) := by decide +kernel
theorem dL_law_933 : decode cL_law 933 = .ok (.iaload, 1) := by decide +kernel
theorem dL_law_934 : decode cL_law 934 = .ok (.aload_n 0, 1) := by decide +kernel
theorem dL_law_935 : decode cL_law 935 = .ok (.iload_n 3, 1) := by decide +kernel
theorem dL_law_936 : decode cL_law 936 = .ok (.iconst 2, 1) := by decide +kernel
theorem dL_law_937 : decode cL_law 937 = .ok (.iadd, 1) := by decide +kernel
theorem dL_law_938 : decode cL_law 938 = .ok (.iaload, 1) := by decide +kernel
theorem dL_law_939 : decode cL_law 939 = .ok (.aload_n 0, 1) := by decide +kernel
theorem dL_law_940 : decode cL_law 940 = .ok (.iload_n 3, 1) := by decide +kernel
theorem dL_law_941 : decode cL_law 941 = .ok (.iconst 3, 1) := by decide +kernel
theorem dL_law_942 : decode cL_law 942 = .ok (.iadd, 1) := by decide +kernel
theorem dL_law_943 : decode cL_law 943 = .ok (.iaload, 1) := by decide +kernel
theorem dL_law_944 : decode cL_law 944 = .ok (.aload_n 0, 1) := by decide +kernel
theorem dL_law_945 : decode cL_law 945 = .ok (.iload_n 3, 1) := by decide +kernel
theorem dL_law_946 : decode cL_law 946 = .ok (.iconst 4, 1) := by decide +kernel
theorem dL_law_947 : decode cL_law 947 = .ok (.iadd, 1) := by decide +kernel
theorem dL_law_948 : decode cL_law 948 = .ok (.iaload, 1) := by decide +kernel
theorem dL_law_949 : decode cL_law 949 = .ok (.aload_n 0, 1) := by decide +kernel
theorem dL_law_950 : decode cL_law 950 = .ok (.iload_n 3, 1) := by decide +kernel
theorem dL_law_951 : decode cL_law 951 = .ok (.iconst 5, 1) := by decide +kernel
theorem dL_law_952 : decode cL_law 952 = .ok (.iadd, 1) := by decide +kernel
theorem dL_law_953 : decode cL_law 953 = .ok (.iaload, 1) := by decide +kernel
theorem dL_law_954 : decode cL_law 954 = .ok (.aload_n 0, 1) := by decide +kernel
theorem dL_law_955 : decode cL_law 955 = .ok (.iload_n 3, 1) := by decide +kernel
theorem dL_law_956 : decode cL_law 956 = .ok (.bipush 6, 2) := by decide +kernel
theorem dL_law_958 : decode cL_law 958 = .ok (.iadd, 1) := by decide +kernel
theorem dL_law_959 : decode cL_law 959 = .ok (.iaload, 1) := by decide +kernel
theorem dL_law_960 : decode cL_law 960 = .ok (.invokevirtual 121, 3) := by decide +kernel
theorem dL_law_963 : decode cL_law 963 = .ok (.aload_n 2, 1) := by decide +kernel
theorem dL_law_964 : decode cL_law 964 = .ok (.aload_n 0, 1) := by decide +kernel
theorem dL_law_965 : decode cL_law 965 = .ok (.iload_n 3, 1) := by decide +kernel
theorem dL_law_966 : decode cL_law 966 = .ok (.iconst 1, 1) := by decide +kernel
theorem dL_law_967 : decode cL_law 967 = .ok (.iadd, 1) := by decide +kernel
theorem dL_law_968 : decode cL_law 968 = .ok (.iaload, 1) := by decide +kernel
theorem dL_law_969 : decode cL_law 969 = .ok (.aload_n 0, 1) := by decide +kernel
theorem dL_law_970 : decode cL_law 970 = .ok (.iload_n 3, 1) := by decide +kernel
theorem dL_law_971 : decode cL_law 971 = .ok (.iconst 2, 1) := by decide +kernel
theorem dL_law_972 : decode cL_law 972 = .ok (.iadd, 1) := by decide +kernel
theorem dL_law_973 : decode cL_law 973 = .ok (.iaload, 1) := by decide +kernel
theorem dL_law_974 : decode cL_law 974 = .ok (.aload_n 0, 1) := by decide +kernel
theorem dL_law_975 : decode cL_law 975 = .ok (.iload_n 3, 1) := by decide +kernel
theorem dL_law_976 : decode cL_law 976 = .ok (.iconst 3, 1) := by decide +kernel
theorem dL_law_977 : decode cL_law 977 = .ok (.iadd, 1) := by decide +kernel
theorem dL_law_978 : decode cL_law 978 = .ok (.iaload, 1) := by decide +kernel
theorem dL_law_979 : decode cL_law 979 = .ok (.aload_n 0, 1) := by decide +kernel
theorem dL_law_980 : decode cL_law 980 = .ok (.iload_n 3, 1) := by decide +kernel
theorem dL_law_981 : decode cL_law 981 = .ok (.iconst 4, 1) := by decide +kernel
theorem dL_law_982 : decode cL_law 982 = .ok (.iadd, 1) := by decide +kernel
theorem dL_law_983 : decode cL_law 983 = .ok (.iaload, 1) := by decide +kernel
theorem dL_law_984 : decode cL_law 984 = .ok (.aload_n 0, 1) := by decide +kernel
theorem dL_law_985 : decode cL_law 985 = .ok (.iload_n 3, 1) := by decide +kernel
theorem dL_law_986 : decode cL_law 986 = .ok (.iconst 5, 1) := by decide +kernel
theorem dL_law_987 : decode cL_law 987 = .ok (.iadd, 1) := by decide +kernel
theorem dL_law_988 : decode cL_law 988 = .ok (.iaload, 1) := by decide +kernel
theorem dL_law_989 : decode cL_law 989 = .ok (.aload_n 0, 1) := by decide +kernel
theorem dL_law_990 : decode cL_law 990 = .ok (.iload_n 3, 1) := by decide +kernel
theorem dL_law_991 : decode cL_law 991 = .ok (.bipush 6, 2) := by decide +kernel
theorem dL_law_993 : decode cL_law 993 = .ok (.iadd, 1) := by decide +kernel
theorem dL_law_994 : decode cL_law 994 = .ok (.iaload, 1) := by decide +kernel
theorem dL_law_995 : decode cL_law 995 = .ok (.invokevirtual 125, 3) := by decide +kernel
theorem dL_law_998 : decode cL_law 998 = .ok (.if_icmp .eq 343, 3) := by decide +kernel
theorem dL_law_1001 : decode cL_law 1001 = .ok (.iconst 0, 1) := by decide +kernel
theorem dL_law_1002 : decode cL_law 1002 = .ok (.ireturn, 1) := by decide +kernel
theorem dL_law_1003 : decode cL_law 1003 = .ok (.aload_n 1, 1) := by decide +kernel
theorem dL_law_1004 : decode cL_law 1004 = .ok (.aload_n 0, 1) := by decide +kernel
theorem dL_law_1005 : decode cL_law 1005 = .ok (.iload_n 3, 1) := by decide +kernel
theorem dL_law_1006 : decode cL_law 1006 = .ok (.iconst 1, 1) := by decide +kernel
theorem dL_law_1007 : decode cL_law 1007 = .ok (.iadd, 1) := by decide +kernel
theorem dL_law_1008 : decode cL_law 1008 = .ok (.iaload, 1) := by decide +kernel
theorem dL_law_1009 : decode cL_law 1009 = .ok (.aload_n 0, 1) := by decide +kernel
theorem dL_law_1010 : decode cL_law 1010 = .ok (.iload_n 3, 1) := by decide +kernel
theorem dL_law_1011 : decode cL_law 1011 = .ok (.iconst 2, 1) := by decide +kernel
theorem dL_law_1012 : decode cL_law 1012 = .ok (.iadd, 1) := by decide +kernel
theorem dL_law_1013 : decode cL_law 1013 = .ok (.iaload, 1) := by decide +kernel
theorem dL_law_1014 : decode cL_law 1014 = .ok (.aload_n 0, 1) := by decide +kernel
theorem dL_law_1015 : decode cL_law 1015 = .ok (.iload_n 3, 1) := by decide +kernel
theorem dL_law_1016 : decode cL_law 1016 = .ok (.iconst 3, 1) := by decide +kernel
theorem dL_law_1017 : decode cL_law 1017 = .ok (.iadd, 1) := by decide +kernel
theorem dL_law_1018 : decode cL_law 1018 = .ok (.iaload, 1) := by decide +kernel
theorem dL_law_1019 : decode cL_law 1019 = .ok (.aload_n 0, 1) := by decide +kernel
theorem dL_law_1020 : decode cL_law 1020 = .ok (.iload_n 3, 1) := by decide +kernel
theorem dL_law_1021 : decode cL_law 1021 = .ok (.iconst 4, 1) := by decide +kernel
theorem dL_law_1022 : decode cL_law 1022 = .ok (.iadd, 1) := by decide +kernel
theorem dL_law_1023 : decode cL_law 1023 = .ok (.iaload, 1) := by decide +kernel
theorem dL_law_1024 : decode cL_law 1024 = .ok (.aload_n 0, 1) := by decide +kernel
theorem dL_law_1025 : decode cL_law 1025 = .ok (.iload_n 3, 1) := by decide +kernel
theorem dL_law_1026 : decode cL_law 1026 = .ok (.iconst 5, 1) := by decide +kernel
theorem dL_law_1027 : decode cL_law 1027 = .ok (.iadd, 1) := by decide +kernel
theorem dL_law_1028 : decode cL_law 1028 = .ok (.iaload, 1) := by decide +kernel
theorem dL_law_1029 : decode cL_law 1029 = .ok (.invokevirtual 126, 3) := by decide +kernel
theorem dL_law_1032 : decode cL_law 1032 = .ok (.aload_n 2, 1) := by decide +kernel
theorem dL_law_1033 : decode cL_law 1033 = .ok (.aload_n 0, 1) := by decide +kernel
theorem dL_law_1034 : decode cL_law 1034 = .ok (.iload_n 3, 1) := by decide +kernel
theorem dL_law_1035 : decode cL_law 1035 = .ok (.iconst 1, 1) := by decide +kernel
theorem dL_law_1036 : decode cL_law 1036 = .ok (.iadd, 1) := by decide +kernel
theorem dL_law_1037 : decode cL_law 1037 = .ok (.iaload, 1) := by decide +kernel
theorem dL_law_1038 : decode cL_law 1038 = .ok (.aload_n 0, 1) := by decide +kernel
theorem dL_law_1039 : decode cL_law 1039 = .ok (.iload_n 3, 1) := by decide +kernel
theorem dL_law_1040 : decode cL_law 1040 = .ok (.iconst 2, 1) := by decide +kernel
theorem dL_law_1041 : decode cL_law 1041 = .ok (.iadd, 1) := by decide +kernel
theorem dL_law_1042 : decode cL_law 1042 = .ok (.iaload, 1) := by decide +kernel
theorem dL_law_1043 : decode cL_law 1043 = .ok (.aload_n 0, 1) := by decide +kernel
theorem dL_law_1044 : decode cL_law 1044 = .ok (.iload_n 3, 1) := by decide +kernel
theorem dL_law_1045 : decode cL_law 1045 = .ok (.iconst 3, 1) := by decide +kernel
theorem dL_law_1046 : decode cL_law 1046 = .ok (.iadd, 1) := by decide +kernel
theorem dL_law_1047 : decode cL_law 1047 = .ok (.iaload, 1) := by decide +kernel
theorem dL_law_1048 : decode cL_law 1048 = .ok (.aload_n 0, 1) := by decide +kernel
theorem dL_law_1049 : decode cL_law 1049 = .ok (.iload_n 3, 1) := by decide +kernel
theorem dL_law_1050 : decode cL_law 1050 = .ok (.iconst 4, 1) := by decide +kernel
theorem dL_law_1051 : decode cL_law 1051 = .ok (.iadd, 1) := by decide +kernel
theorem dL_law_1052 : decode cL_law 1052 = .ok (.iaload, 1) := by decide +kernel
theorem dL_law_1053 : decode cL_law 1053 = .ok (.aload_n 0, 1) := by decide +kernel
theorem dL_law_1054 : decode cL_law 1054 = .ok (.iload_n 3, 1) := by decide +kernel
theorem dL_law_1055 : decode cL_law 1055 = .ok (.iconst 5, 1) := by decide +kernel
theorem dL_law_1056 : decode cL_law 1056 = .ok (.iadd, 1) := by decide +kernel
theorem dL_law_1057 : decode cL_law 1057 = .ok (.iaload, 1) := by decide +kernel
theorem dL_law_1058 : decode cL_law 1058 = .ok (.invokevirtual 130, 3) := by decide +kernel
theorem dL_law_1061 : decode cL_law 1061 = .ok (.if_icmp .eq 280, 3) := by decide +kernel
theorem dL_law_1064 : decode cL_law 1064 = .ok (.iconst 0, 1) := by decide +kernel
theorem dL_law_1065 : decode cL_law 1065 = .ok (.ireturn, 1) := by decide +kernel
theorem dL_law_1066 : decode cL_law 1066 = .ok (.aload_n 1, 1) := by decide +kernel
theorem dL_law_1067 : decode cL_law 1067 = .ok (.aload_n 0, 1) := by decide +kernel
theorem dL_law_1068 : decode cL_law 1068 = .ok (.iload_n 3, 1) := by decide +kernel
theorem dL_law_1069 : decode cL_law 1069 = .ok (.iconst 1, 1) := by decide +kernel
theorem dL_law_1070 : decode cL_law 1070 = .ok (.iadd, 1) := by decide +kernel
theorem dL_law_1071 : decode cL_law 1071 = .ok (.iaload, 1) := by decide +kernel
theorem dL_law_1072 : decode cL_law 1072 = .ok (.aload_n 0, 1) := by decide +kernel
theorem dL_law_1073 : decode cL_law 1073 = .ok (.iload_n 3, 1) := by decide +kernel
theorem dL_law_1074 : decode cL_law 1074 = .ok (.iconst 2, 1) := by decide +kernel
theorem dL_law_1075 : decode cL_law 1075 = .ok (.iadd, 1) := by decide +kernel
theorem dL_law_1076 : decode cL_law 1076 = .ok (.iaload, 1) := by decide +kernel
theorem dL_law_1077 : decode cL_law 1077 = .ok (.aload_n 0, 1) := by decide +kernel
theorem dL_law_1078 : decode cL_law 1078 = .ok (.iload_n 3, 1) := by decide +kernel
theorem dL_law_1079 : decode cL_law 1079 = .ok (.iconst 3, 1) := by decide +kernel
theorem dL_law_1080 : decode cL_law 1080 = .ok (.iadd, 1) := by decide +kernel
theorem dL_law_1081 : decode cL_law 1081 = .ok (.iaload, 1) := by decide +kernel
theorem dL_law_1082 : decode cL_law 1082 = .ok (.aload_n 0, 1) := by decide +kernel
theorem dL_law_1083 : decode cL_law 1083 = .ok (.iload_n 3, 1) := by decide +kernel
theorem dL_law_1084 : decode cL_law 1084 = .ok (.iconst 4, 1) := by decide +kernel
theorem dL_law_1085 : decode cL_law 1085 = .ok (.iadd, 1) := by decide +kernel
theorem dL_law_1086 : decode cL_law 1086 = .ok (.iaload, 1) := by decide +kernel
theorem dL_law_1087 : decode cL_law 1087 = .ok (.aload_n 0, 1) := by decide +kernel
theorem dL_law_1088 : decode cL_law 1088 = .ok (.iload_n 3, 1) := by decide +kernel
theorem dL_law_1089 : decode cL_law 1089 = .ok (.iconst 5, 1) := by decide +kernel
theorem dL_law_1090 : decode cL_law 1090 = .ok (.iadd, 1) := by decide +kernel
theorem dL_law_1091 : decode cL_law 1091 = .ok (.iaload, 1) := by decide +kernel
theorem dL_law_1092 : decode cL_law 1092 = .ok (.invokevirtual 131, 3) := by decide +kernel
theorem dL_law_1095 : decode cL_law 1095 = .ok (.aload_n 2, 1) := by decide +kernel
theorem dL_law_1096 : decode cL_law 1096 = .ok (.aload_n 0, 1) := by decide +kernel
theorem dL_law_1097 : decode cL_law 1097 = .ok (.iload_n 3, 1) := by decide +kernel
theorem dL_law_1098 : decode cL_law 1098 = .ok (.iconst 1, 1) := by decide +kernel
theorem dL_law_1099 : decode cL_law 1099 = .ok (.iadd, 1) := by decide +kernel
theorem dL_law_1100 : decode cL_law 1100 = .ok (.iaload, 1) := by decide +kernel
theorem dL_law_1101 : decode cL_law 1101 = .ok (.aload_n 0, 1) := by decide +kernel
theorem dL_law_1102 : decode cL_law 1102 = .ok (.iload_n 3, 1) := by decide +kernel
theorem dL_law_1103 : decode cL_law 1103 = .ok (.iconst 2, 1) := by decide +kernel
theorem dL_law_1104 : decode cL_law 1104 = .ok (.iadd, 1) := by decide +kernel
theorem dL_law_1105 : decode cL_law 1105 = .ok (.iaload, 1) := by decide +kernel
theorem dL_law_1106 : decode cL_law 1106 = .ok (.aload_n 0, 1) := by decide +kernel
theorem dL_law_1107 : decode cL_law 1107 = .ok (.iload_n 3, 1) := by decide +kernel
theorem dL_law_1108 : decode cL_law 1108 = .ok (.iconst 3, 1) := by decide +kernel
theorem dL_law_1109 : decode cL_law 1109 = .ok (.iadd, 1) := by decide +kernel
theorem dL_law_1110 : decode cL_law 1110 = .ok (.iaload, 1) := by decide +kernel
theorem dL_law_1111 : decode cL_law 1111 = .ok (.aload_n 0, 1) := by decide +kernel
theorem dL_law_1112 : decode cL_law 1112 = .ok (.iload_n 3, 1) := by decide +kernel
theorem dL_law_1113 : decode cL_law 1113 = .ok (.iconst 4, 1) := by decide +kernel
theorem dL_law_1114 : decode cL_law 1114 = .ok (.iadd, 1) := by decide +kernel
theorem dL_law_1115 : decode cL_law 1115 = .ok (.iaload, 1) := by decide +kernel
theorem dL_law_1116 : decode cL_law 1116 = .ok (.aload_n 0, 1) := by decide +kernel
theorem dL_law_1117 : decode cL_law 1117 = .ok (.iload_n 3, 1) := by decide +kernel
theorem dL_law_1118 : decode cL_law 1118 = .ok (.iconst 5, 1) := by decide +kernel
theorem dL_law_1119 : decode cL_law 1119 = .ok (.iadd, 1) := by decide +kernel
theorem dL_law_1120 : decode cL_law 1120 = .ok (.iaload, 1) := by decide +kernel
theorem dL_law_1121 : decode cL_law 1121 = .ok (.invokevirtual 134, 3) := by decide +kernel
theorem dL_law_1124 : decode cL_law 1124 = .ok (.if_icmp .eq 217, 3) := by decide +kernel
theorem dL_law_1127 : decode cL_law 1127 = .ok (.iconst 0, 1) := by decide +kernel
theorem dL_law_1128 : decode cL_law 1128 = .ok (.ireturn, 1) := by decide +kernel
theorem dL_law_1129 : decode cL_law 1129 = .ok (.aload_n 1, 1) := by decide +kernel
theorem dL_law_1130 : decode cL_law 1130 = .ok (.aload_n 0, 1) := by decide +kernel
theorem dL_law_1131 : decode cL_law 1131 = .ok (.iload_n 3, 1) := by decide +kernel
theorem dL_law_1132 : decode cL_law 1132 = .ok (.iconst 1, 1) := by decide +kernel
theorem dL_law_1133 : decode cL_law 1133 = .ok (.iadd, 1) := by decide +kernel
theorem dL_law_1134 : decode cL_law 1134 = .ok (.iaload, 1) := by decide +kernel
theorem dL_law_1135 : decode cL_law 1135 = .ok (.aload_n 0, 1) := by decide +kernel
theorem dL_law_1136 : decode cL_law 1136 = .ok (.iload_n 3, 1) := by decide +kernel
theorem dL_law_1137 : decode cL_law 1137 = .ok (.iconst 2, 1) := by decide +kernel
theorem dL_law_1138 : decode cL_law 1138 = .ok (.iadd, 1) := by decide +kernel
theorem dL_law_1139 : decode cL_law 1139 = .ok (.iaload, 1) := by decide +kernel
theorem dL_law_1140 : decode cL_law 1140 = .ok (.aload_n 0, 1) := by decide +kernel
theorem dL_law_1141 : decode cL_law 1141 = .ok (.iload_n 3, 1) := by decide +kernel
theorem dL_law_1142 : decode cL_law 1142 = .ok (.iconst 3, 1) := by decide +kernel
theorem dL_law_1143 : decode cL_law 1143 = .ok (.iadd, 1) := by decide +kernel
theorem dL_law_1144 : decode cL_law 1144 = .ok (.iaload, 1) := by decide +kernel
theorem dL_law_1145 : decode cL_law 1145 = .ok (.invokevirtual 135, 3) := by decide +kernel
theorem dL_law_1148 : decode cL_law 1148 = .ok (.aload_n 2, 1) := by decide +kernel
theorem dL_law_1149 : decode cL_law 1149 = .ok (.aload_n 0, 1) := by decide +kernel
theorem dL_law_1150 : decode cL_law 1150 = .ok (.iload_n 3, 1) := by decide +kernel
theorem dL_law_1151 : decode cL_law 1151 = .ok (.iconst 1, 1) := by decide +kernel
theorem dL_law_1152 : decode cL_law 1152 = .ok (.iadd, 1) := by decide +kernel
theorem dL_law_1153 : decode cL_law 1153 = .ok (.iaload, 1) := by decide +kernel
theorem dL_law_1154 : decode cL_law 1154 = .ok (.aload_n 0, 1) := by decide +kernel
theorem dL_law_1155 : decode cL_law 1155 = .ok (.iload_n 3, 1) := by decide +kernel
theorem dL_law_1156 : decode cL_law 1156 = .ok (.iconst 2, 1) := by decide +kernel
theorem dL_law_1157 : decode cL_law 1157 = .ok (.iadd, 1) := by decide +kernel
theorem dL_law_1158 : decode cL_law 1158 = .ok (.iaload, 1) := by decide +kernel
theorem dL_law_1159 : decode cL_law 1159 = .ok (.aload_n 0, 1) := by decide +kernel
theorem dL_law_1160 : decode cL_law 1160 = .ok (.iload_n 3, 1) := by decide +kernel
theorem dL_law_1161 : decode cL_law 1161 = .ok (.iconst 3, 1) := by decide +kernel
theorem dL_law_1162 : decode cL_law 1162 = .ok (.iadd, 1) := by decide +kernel
theorem dL_law_1163 : decode cL_law 1163 = .ok (.iaload, 1) := by decide +kernel
theorem dL_law_1164 : decode cL_law 1164 = .ok (.invokevirtual 138, 3) := by decide +kernel
theorem dL_law_1167 : decode cL_law 1167 = .ok (.if_icmp .eq 174, 3) := by decide +kernel
theorem dL_law_1170 : decode cL_law 1170 = .ok (.iconst 0, 1) := by decide +kernel
theorem dL_law_1171 : decode cL_law 1171 = .ok (.ireturn, 1) := by decide +kernel
theorem dL_law_1172 : decode cL_law 1172 = .ok (.aload_n 1, 1) := by decide +kernel
theorem dL_law_1173 : decode cL_law 1173 = .ok (.aload_n 0, 1) := by decide +kernel
theorem dL_law_1174 : decode cL_law 1174 = .ok (.iload_n 3, 1) := by decide +kernel
theorem dL_law_1175 : decode cL_law 1175 = .ok (.iconst 1, 1) := by decide +kernel
theorem dL_law_1176 : decode cL_law 1176 = .ok (.iadd, 1) := by decide +kernel
theorem dL_law_1177 : decode cL_law 1177 = .ok (.iaload, 1) := by decide +kernel
theorem dL_law_1178 : decode cL_law 1178 = .ok (.invokevirtual 139, 3) := by decide +kernel
theorem dL_law_1181 : decode cL_law 1181 = .ok (.aload_n 2, 1) := by decide +kernel
theorem dL_law_1182 : decode cL_law 1182 = .ok (.aload_n 0, 1) := by decide +kernel
theorem dL_law_1183 : decode cL_law 1183 = .ok (.iload_n 3, 1) := by decide +kernel
theorem dL_law_1184 : decode cL_law 1184 = .ok (.iconst 1, 1) := by decide +kernel
theorem dL_law_1185 : decode cL_law 1185 = .ok (.iadd, 1) := by decide +kernel
theorem dL_law_1186 : decode cL_law 1186 = .ok (.iaload, 1) := by decide +kernel
theorem dL_law_1187 : decode cL_law 1187 = .ok (.invokevirtual 142, 3) := by decide +kernel
theorem dL_law_1190 : decode cL_law 1190 = .ok (.if_icmp .eq 151, 3) := by decide +kernel
theorem dL_law_1193 : decode cL_law 1193 = .ok (.iconst 0, 1) := by decide +kernel
theorem dL_law_1194 : decode cL_law 1194 = .ok (.ireturn, 1) := by decide +kernel
theorem dL_law_1195 : decode cL_law 1195 = .ok (.aload_n 1, 1) := by decide +kernel
theorem dL_law_1196 : decode cL_law 1196 = .ok (.aload_n 0, 1) := by decide +kernel
theorem dL_law_1197 : decode cL_law 1197 = .ok (.iload_n 3, 1) := by decide +kernel
theorem dL_law_1198 : decode cL_law 1198 = .ok (.iconst 1, 1) := by decide +kernel
theorem dL_law_1199 : decode cL_law 1199 = .ok (.iadd, 1) := by decide +kernel
theorem dL_law_1200 : decode cL_law 1200 = .ok (.iaload, 1) := by decide +kernel
theorem dL_law_1201 : decode cL_law 1201 = .ok (.aload_n 0, 1) := by decide +kernel
theorem dL_law_1202 : decode cL_law 1202 = .ok (.iload_n 3, 1) := by decide +kernel
theorem dL_law_1203 : decode cL_law 1203 = .ok (.iconst 2, 1) := by decide +kernel
theorem dL_law_1204 : decode cL_law 1204 = .ok (.iadd, 1) := by decide +kernel
theorem dL_law_1205 : decode cL_law 1205 = .ok (.iaload, 1) := by decide +kernel
theorem dL_law_1206 : decode cL_law 1206 = .ok (.aload_n 0, 1) := by decide +kernel
theorem dL_law_1207 : decode cL_law 1207 = .ok (.iload_n 3, 1) := by decide +kernel
theorem dL_law_1208 : decode cL_law 1208 = .ok (.iconst 3, 1) := by decide +kernel
theorem dL_law_1209 : decode cL_law 1209 = .ok (.iadd, 1) := by decide +kernel
theorem dL_law_1210 : decode cL_law 1210 = .ok (.iaload, 1) := by decide +kernel
theorem dL_law_1211 : decode cL_law 1211 = .ok (.aload_n 0, 1) := by decide +kernel
theorem dL_law_1212 : decode cL_law 1212 = .ok (.iload_n 3, 1) := by decide +kernel
theorem dL_law_1213 : decode cL_law 1213 = .ok (.iconst 4, 1) := by decide +kernel
theorem dL_law_1214 : decode cL_law 1214 = .ok (.iadd, 1) := by decide +kernel
theorem dL_law_1215 : decode cL_law 1215 = .ok (.iaload, 1) := by decide +kernel
theorem dL_law_1216 : decode cL_law 1216 = .ok (.i2l, 1) := by decide +kernel
theorem dL_law_1217 : decode cL_law 1217 = .ok (.bipush 32, 2) := by decide +kernel
theorem dL_law_1219 : decode cL_law 1219 = .ok (.lshl, 1) := by decide +kernel
theorem dL_law_1220 : decode cL_law 1220 = .ok (.aload_n 0, 1) := by decide +kernel
theorem dL_law_1221 : decode cL_law 1221 = .ok (.iload_n 3, 1) := by decide +kernel
theorem dL_law_1222 : decode cL_law 1222 = .ok (.iconst 5, 1) := by decide +kernel
theorem dL_law_1223 : decode cL_law 1223 = .ok (.iadd, 1) := by decide +kernel
theorem dL_law_1224 : decode cL_law 1224 = .ok (.iaload, 1) := by decide +kernel
theorem dL_law_1225 : decode cL_law 1225 = .ok (.i2l, 1) := by decide +kernel
theorem dL_law_1226 : decode cL_law 1226 = .ok (.ldc2_w 143, 3) := by decide +kernel
theorem dL_law_1229 : decode cL_law 1229 = .ok (.land, 1) := by decide +kernel
theorem dL_law_1230 : decode cL_law 1230 = .ok (.lor, 1) := by decide +kernel
theorem dL_law_1231 : decode cL_law 1231 = .ok (.invokevirtual 145, 3) := by decide +kernel
theorem dL_law_1234 : decode cL_law 1234 = .ok (.aload_n 2, 1) := by decide +kernel
theorem dL_law_1235 : decode cL_law 1235 = .ok (.aload_n 0, 1) := by decide +kernel
theorem dL_law_1236 : decode cL_law 1236 = .ok (.iload_n 3, 1) := by decide +kernel
theorem dL_law_1237 : decode cL_law 1237 = .ok (.iconst 1, 1) := by decide +kernel
theorem dL_law_1238 : decode cL_law 1238 = .ok (.iadd, 1) := by decide +kernel
theorem dL_law_1239 : decode cL_law 1239 = .ok (.iaload, 1) := by decide +kernel
theorem dL_law_1240 : decode cL_law 1240 = .ok (.aload_n 0, 1) := by decide +kernel
theorem dL_law_1241 : decode cL_law 1241 = .ok (.iload_n 3, 1) := by decide +kernel
theorem dL_law_1242 : decode cL_law 1242 = .ok (.iconst 2, 1) := by decide +kernel
theorem dL_law_1243 : decode cL_law 1243 = .ok (.iadd, 1) := by decide +kernel
theorem dL_law_1244 : decode cL_law 1244 = .ok (.iaload, 1) := by decide +kernel
theorem dL_law_1245 : decode cL_law 1245 = .ok (.aload_n 0, 1) := by decide +kernel
theorem dL_law_1246 : decode cL_law 1246 = .ok (.iload_n 3, 1) := by decide +kernel
theorem dL_law_1247 : decode cL_law 1247 = .ok (.iconst 3, 1) := by decide +kernel
theorem dL_law_1248 : decode cL_law 1248 = .ok (.iadd, 1) := by decide +kernel
theorem dL_law_1249 : decode cL_law 1249 = .ok (.iaload, 1) := by decide +kernel
theorem dL_law_1250 : decode cL_law 1250 = .ok (.aload_n 0, 1) := by decide +kernel
theorem dL_law_1251 : decode cL_law 1251 = .ok (.iload_n 3, 1) := by decide +kernel
theorem dL_law_1252 : decode cL_law 1252 = .ok (.iconst 4, 1) := by decide +kernel
theorem dL_law_1253 : decode cL_law 1253 = .ok (.iadd, 1) := by decide +kernel
theorem dL_law_1254 : decode cL_law 1254 = .ok (.iaload, 1) := by decide +kernel
theorem dL_law_1255 : decode cL_law 1255 = .ok (.i2l, 1) := by decide +kernel
theorem dL_law_1256 : decode cL_law 1256 = .ok (.bipush 32, 2) := by decide +kernel
theorem dL_law_1258 : decode cL_law 1258 = .ok (.lshl, 1) := by decide +kernel
theorem dL_law_1259 : decode cL_law 1259 = .ok (.aload_n 0, 1) := by decide +kernel
theorem dL_law_1260 : decode cL_law 1260 = .ok (.iload_n 3, 1) := by decide +kernel
theorem dL_law_1261 : decode cL_law 1261 = .ok (.iconst 5, 1) := by decide +kernel
theorem dL_law_1262 : decode cL_law 1262 = .ok (.iadd, 1) := by decide +kernel
theorem dL_law_1263 : decode cL_law 1263 = .ok (.iaload, 1) := by decide +kernel
theorem dL_law_1264 : decode cL_law 1264 = .ok (.i2l, 1) := by decide +kernel
theorem dL_law_1265 : decode cL_law 1265 = .ok (.ldc2_w 143, 3) := by decide +kernel
theorem dL_law_1268 : decode cL_law 1268 = .ok (.land, 1) := by decide +kernel
theorem dL_law_1269 : decode cL_law 1269 = .ok (.lor, 1) := by decide +kernel
theorem dL_law_1270 : decode cL_law 1270 = .ok (.invokevirtual 149, 3) := by decide +kernel
theorem dL_law_1273 : decode cL_law 1273 = .ok (.if_icmp .eq 68, 3) := by decide +kernel
theorem dL_law_1276 : decode cL_law 1276 = .ok (.iconst 0, 1) := by decide +kernel
theorem dL_law_1277 : decode cL_law 1277 = .ok (.ireturn, 1) := by decide +kernel
theorem dL_law_1278 : decode cL_law 1278 = .ok (.aload_n 1, 1) := by decide +kernel
theorem dL_law_1279 : decode cL_law 1279 = .ok (.aload_n 0, 1) := by decide +kernel
theorem dL_law_1280 : decode cL_law 1280 = .ok (.iload_n 3, 1) := by decide +kernel
theorem dL_law_1281 : decode cL_law 1281 = .ok (.iconst 1, 1) := by decide +kernel
theorem dL_law_1282 : decode cL_law 1282 = .ok (.iadd, 1) := by decide +kernel
theorem dL_law_1283 : decode cL_law 1283 = .ok (.iaload, 1) := by decide +kernel
theorem dL_law_1284 : decode cL_law 1284 = .ok (.aload_n 0, 1) := by decide +kernel
theorem dL_law_1285 : decode cL_law 1285 = .ok (.iload_n 3, 1) := by decide +kernel
theorem dL_law_1286 : decode cL_law 1286 = .ok (.iconst 2, 1) := by decide +kernel
theorem dL_law_1287 : decode cL_law 1287 = .ok (.iadd, 1) := by decide +kernel
theorem dL_law_1288 : decode cL_law 1288 = .ok (.iaload, 1) := by decide +kernel
theorem dL_law_1289 : decode cL_law 1289 = .ok (.aload_n 0, 1) := by decide +kernel
theorem dL_law_1290 : decode cL_law 1290 = .ok (.iload_n 3, 1) := by decide +kernel
theorem dL_law_1291 : decode cL_law 1291 = .ok (.iconst 3, 1) := by decide +kernel
theorem dL_law_1292 : decode cL_law 1292 = .ok (.iadd, 1) := by decide +kernel
theorem dL_law_1293 : decode cL_law 1293 = .ok (.iaload, 1) := by decide +kernel
theorem dL_law_1294 : decode cL_law 1294 = .ok (.aload_n 0, 1) := by decide +kernel
theorem dL_law_1295 : decode cL_law 1295 = .ok (.iload_n 3, 1) := by decide +kernel
theorem dL_law_1296 : decode cL_law 1296 = .ok (.iconst 4, 1) := by decide +kernel
theorem dL_law_1297 : decode cL_law 1297 = .ok (.iadd, 1) := by decide +kernel
theorem dL_law_1298 : decode cL_law 1298 = .ok (.iaload, 1) := by decide +kernel
theorem dL_law_1299 : decode cL_law 1299 = .ok (.aload_n 0, 1) := by decide +kernel
theorem dL_law_1300 : decode cL_law 1300 = .ok (.iload_n 3, 1) := by decide +kernel
theorem dL_law_1301 : decode cL_law 1301 = .ok (.iconst 5, 1) := by decide +kernel
theorem dL_law_1302 : decode cL_law 1302 = .ok (.iadd, 1) := by decide +kernel
theorem dL_law_1303 : decode cL_law 1303 = .ok (.iaload, 1) := by decide +kernel
theorem dL_law_1304 : decode cL_law 1304 = .ok (.invokevirtual 150, 3) := by decide +kernel
theorem dL_law_1307 : decode cL_law 1307 = .ok (.aload_n 2, 1) := by decide +kernel
theorem dL_law_1308 : decode cL_law 1308 = .ok (.aload_n 0, 1) := by decide +kernel
theorem dL_law_1309 : decode cL_law 1309 = .ok (.iload_n 3, 1) := by decide +kernel
theorem dL_law_1310 : decode cL_law 1310 = .ok (.iconst 1, 1) := by decide +kernel
theorem dL_law_1311 : decode cL_law 1311 = .ok (.iadd, 1) := by decide +kernel
theorem dL_law_1312 : decode cL_law 1312 = .ok (.iaload, 1) := by decide +kernel
theorem dL_law_1313 : decode cL_law 1313 = .ok (.aload_n 0, 1) := by decide +kernel
theorem dL_law_1314 : decode cL_law 1314 = .ok (.iload_n 3, 1) := by decide +kernel
theorem dL_law_1315 : decode cL_law 1315 = .ok (.iconst 2, 1) := by decide +kernel
theorem dL_law_1316 : decode cL_law 1316 = .ok (.iadd, 1) := by decide +kernel
theorem dL_law_1317 : decode cL_law 1317 = .ok (.iaload, 1) := by decide +kernel
theorem dL_law_1318 : decode cL_law 1318 = .ok (.aload_n 0, 1) := by decide +kernel
theorem dL_law_1319 : decode cL_law 1319 = .ok (.iload_n 3, 1) := by decide +kernel
theorem dL_law_1320 : decode cL_law 1320 = .ok (.iconst 3, 1) := by decide +kernel
theorem dL_law_1321 : decode cL_law 1321 = .ok (.iadd, 1) := by decide +kernel
theorem dL_law_1322 : decode cL_law 1322 = .ok (.iaload, 1) := by decide +kernel
theorem dL_law_1323 : decode cL_law 1323 = .ok (.aload_n 0, 1) := by decide +kernel
theorem dL_law_1324 : decode cL_law 1324 = .ok (.iload_n 3, 1) := by decide +kernel
theorem dL_law_1325 : decode cL_law 1325 = .ok (.iconst 4, 1) := by decide +kernel
theorem dL_law_1326 : decode cL_law 1326 = .ok (.iadd, 1) := by decide +kernel
theorem dL_law_1327 : decode cL_law 1327 = .ok (.iaload, 1) := by decide +kernel
theorem dL_law_1328 : decode cL_law 1328 = .ok (.aload_n 0, 1) := by decide +kernel
theorem dL_law_1329 : decode cL_law 1329 = .ok (.iload_n 3, 1) := by decide +kernel
theorem dL_law_1330 : decode cL_law 1330 = .ok (.iconst 5, 1) := by decide +kernel
theorem dL_law_1331 : decode cL_law 1331 = .ok (.iadd, 1) := by decide +kernel
theorem dL_law_1332 : decode cL_law 1332 = .ok (.iaload, 1) := by decide +kernel
theorem dL_law_1333 : decode cL_law 1333 = .ok (.invokevirtual 153, 3) := by decide +kernel
theorem dL_law_1336 : decode cL_law 1336 = .ok (.if_icmp .eq 5, 3) := by decide +kernel
theorem dL_law_1339 : decode cL_law 1339 = .ok (.iconst 0, 1) := by decide +kernel
theorem dL_law_1340 : decode cL_law 1340 = .ok (.ireturn, 1) := by decide +kernel
theorem dL_law_1341 : decode cL_law 1341 = .ok (.iinc 3 7, 3) := by decide +kernel
theorem dL_law_1344 : decode cL_law 1344 = .ok (.goto (-1326), 3) := by decide +kernel
theorem dL_law_1347 : decode cL_law 1347 = .ok (.iconst 1, 1) := by decide +kernel
theorem dL_law_1348 : decode cL_law 1348 = .ok (.ireturn, 1) := by decide +kernel
abbrev vwCl : List vw_C := [(RX0, TX0, 3), (RX1, TX1, 4), (RX2, TX2, 12), (RX3, TX3, 4), (RX4, TX4, 6), (RX5, TX5, 4), (RX6, TX6, 4), (RX7, TX7, 12), (RX8, TX8, 15)]
/-! ===== END printed: names ===== -/

