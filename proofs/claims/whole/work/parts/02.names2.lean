set_option maxRecDepth 20000 in
theorem ggX0_init_X2_init : GoodIn wsX0_init wsX2_init := goodIn_r _ [9, 10, 2, 3, 11, 12, 13, 14, 15, 16, 17, 18, 19, 23, 24, 25, 26, 27, 28, 29, 30, 31, 32, 33, 34] (by decide +kernel) (by decide +kernel)
set_option maxRecDepth 20000 in
theorem gX0_init_X2_init_n17 : GoodIn wsX0_init (wsX2_init) := ggX0_init_X2_init
theorem dX0_init_0 : decode cX0_init 0 = .ok (.aload_n 0, 1) := by decide +kernel
theorem dX0_init_1 : decode cX0_init 1 = .ok (.invokespecial 3, 3) := by decide +kernel
theorem dX0_init_4 : decode cX0_init 4 = .ok (.aload_n 0, 1) := by decide +kernel
theorem dX0_init_5 : decode cX0_init 5 = .ok (.bipush 8, 2) := by decide +kernel
theorem dX0_init_7 : decode cX0_init 7 = .ok (.anewarray 9, 3) := by decide +kernel
theorem dX0_init_10 : decode cX0_init 10 = .ok (.putfield 11, 3) := by decide +kernel
theorem dX0_init_13 : decode cX0_init 13 = .ok (.iconst 0, 1) := by decide +kernel
theorem dX0_init_14 : decode cX0_init 14 = .ok (.istore_n 1, 1) := by decide +kernel
theorem dX0_init_15 : decode cX0_init 15 = .ok (.iload_n 1, 1) := by decide +kernel
theorem dX0_init_16 : decode cX0_init 16 = .ok (.bipush 8, 2) := by decide +kernel
theorem dX0_init_18 : decode cX0_init 18 = .ok (.if_icmp .ge 22, 3) := by decide +kernel
theorem dX0_init_21 : decode cX0_init 21 = .ok (.aload_n 0, 1) := by decide +kernel
theorem dX0_init_22 : decode cX0_init 22 = .ok (.getfield 11, 3) := by decide +kernel
theorem dX0_init_25 : decode cX0_init 25 = .ok (.iload_n 1, 1) := by decide +kernel
theorem dX0_init_26 : decode cX0_init 26 = .ok (.new 9, 3) := by decide +kernel
theorem dX0_init_29 : decode cX0_init 29 = .ok (.dup, 1) := by decide +kernel
theorem dX0_init_30 : decode cX0_init 30 = .ok (.invokespecial 17, 3) := by decide +kernel
theorem dX0_init_33 : decode cX0_init 33 = .ok (.aastore, 1) := by decide +kernel
theorem dX0_init_34 : decode cX0_init 34 = .ok (.iinc 1 1, 3) := by decide +kernel
theorem dX0_init_37 : decode cX0_init 37 = .ok (.goto (-22), 3) := by decide +kernel
theorem dX0_init_40 : decode cX0_init 40 = .ok (.return_, 1) := by decide +kernel
theorem dX0_forget_0 : decode cX0_forget 0 = .ok (.aload_n 0, 1) := by decide +kernel
theorem dX0_forget_1 : decode cX0_forget 1 = .ok (.iconst 0, 1) := by decide +kernel
theorem dX0_forget_2 : decode cX0_forget 2 = .ok (.putfield 18, 3) := by decide +kernel
theorem dX0_forget_5 : decode cX0_forget 5 = .ok (.return_, 1) := by decide +kernel
set_option maxRecDepth 20000 in
theorem ggX0_keep_X2_become : GoodIn wsX0_keep wsX2_become := goodIn_r _ [8, 9, 10, 11, 12, 13, 14, 15, 16, 17, 18, 19, 20, 21, 22, 23, 24, 28, 29, 30, 31, 32, 33, 34, 35, 36, 37, 38, 39] (by decide +kernel) (by decide +kernel)
set_option maxRecDepth 20000 in
theorem gX0_keep_X2_become : GoodIn wsX0_keep (wsV RX0 25 RX2 yX2_become wsX2_become) := goodIn_app (goodIn_of _ (by decide +kernel)) ggX0_keep_X2_become
theorem dX0_keep_0 : decode cX0_keep 0 = .ok (.aload_n 0, 1) := by decide +kernel
theorem dX0_keep_1 : decode cX0_keep 1 = .ok (.getfield 11, 3) := by decide +kernel
theorem dX0_keep_4 : decode cX0_keep 4 = .ok (.aload_n 0, 1) := by decide +kernel
theorem dX0_keep_5 : decode cX0_keep 5 = .ok (.getfield 22, 3) := by decide +kernel
theorem dX0_keep_8 : decode cX0_keep 8 = .ok (.aload_n 0, 1) := by decide +kernel
theorem dX0_keep_9 : decode cX0_keep 9 = .ok (.getfield 18, 3) := by decide +kernel
theorem dX0_keep_12 : decode cX0_keep 12 = .ok (.iadd, 1) := by decide +kernel
theorem dX0_keep_13 : decode cX0_keep 13 = .ok (.bipush 8, 2) := by decide +kernel
theorem dX0_keep_15 : decode cX0_keep 15 = .ok (.irem, 1) := by decide +kernel
theorem dX0_keep_16 : decode cX0_keep 16 = .ok (.aaload, 1) := by decide +kernel
theorem dX0_keep_17 : decode cX0_keep 17 = .ok (.aload_n 1, 1) := by decide +kernel
theorem dX0_keep_18 : decode cX0_keep 18 = .ok (.invokevirtual 25, 3) := by decide +kernel
theorem dX0_keep_21 : decode cX0_keep 21 = .ok (.aload_n 0, 1) := by decide +kernel
theorem dX0_keep_22 : decode cX0_keep 22 = .ok (.getfield 18, 3) := by decide +kernel
theorem dX0_keep_25 : decode cX0_keep 25 = .ok (.bipush 8, 2) := by decide +kernel
theorem dX0_keep_27 : decode cX0_keep 27 = .ok (.if_icmp .ge 16, 3) := by decide +kernel
theorem dX0_keep_30 : decode cX0_keep 30 = .ok (.aload_n 0, 1) := by decide +kernel
theorem dX0_keep_31 : decode cX0_keep 31 = .ok (.dup, 1) := by decide +kernel
theorem dX0_keep_32 : decode cX0_keep 32 = .ok (.getfield 18, 3) := by decide +kernel
theorem dX0_keep_35 : decode cX0_keep 35 = .ok (.iconst 1, 1) := by decide +kernel
theorem dX0_keep_36 : decode cX0_keep 36 = .ok (.iadd, 1) := by decide +kernel
theorem dX0_keep_37 : decode cX0_keep 37 = .ok (.putfield 18, 3) := by decide +kernel
theorem dX0_keep_40 : decode cX0_keep 40 = .ok (.goto 16, 3) := by decide +kernel
theorem dX0_keep_43 : decode cX0_keep 43 = .ok (.aload_n 0, 1) := by decide +kernel
theorem dX0_keep_44 : decode cX0_keep 44 = .ok (.aload_n 0, 1) := by decide +kernel
theorem dX0_keep_45 : decode cX0_keep 45 = .ok (.getfield 22, 3) := by decide +kernel
theorem dX0_keep_48 : decode cX0_keep 48 = .ok (.iconst 1, 1) := by decide +kernel
theorem dX0_keep_49 : decode cX0_keep 49 = .ok (.iadd, 1) := by decide +kernel
theorem dX0_keep_50 : decode cX0_keep 50 = .ok (.bipush 8, 2) := by decide +kernel
theorem dX0_keep_52 : decode cX0_keep 52 = .ok (.irem, 1) := by decide +kernel
theorem dX0_keep_53 : decode cX0_keep 53 = .ok (.putfield 22, 3) := by decide +kernel
theorem dX0_keep_56 : decode cX0_keep 56 = .ok (.return_, 1) := by decide +kernel
set_option maxRecDepth 20000 in
theorem ggX0_takeBack_X2_become : GoodIn wsX0_takeBack wsX2_become := goodIn_r _ [8, 9, 10, 11, 12, 13, 14, 15, 16, 17, 18, 19, 20, 21, 22, 23, 24, 28, 29, 30, 31, 32, 33, 34, 35, 36, 37, 38, 39] (by decide +kernel) (by decide +kernel)
set_option maxRecDepth 20000 in
theorem gX0_takeBack_X2_become : GoodIn wsX0_takeBack (wsV RX0 25 RX2 yX2_become wsX2_become) := goodIn_app (goodIn_of _ (by decide +kernel)) ggX0_takeBack_X2_become
theorem dX0_takeBack_0 : decode cX0_takeBack 0 = .ok (.aload_n 0, 1) := by decide +kernel
theorem dX0_takeBack_1 : decode cX0_takeBack 1 = .ok (.getfield 18, 3) := by decide +kernel
theorem dX0_takeBack_4 : decode cX0_takeBack 4 = .ok (.ifCond .le 34, 3) := by decide +kernel
theorem dX0_takeBack_7 : decode cX0_takeBack 7 = .ok (.aload_n 0, 1) := by decide +kernel
theorem dX0_takeBack_8 : decode cX0_takeBack 8 = .ok (.dup, 1) := by decide +kernel
theorem dX0_takeBack_9 : decode cX0_takeBack 9 = .ok (.getfield 18, 3) := by decide +kernel
theorem dX0_takeBack_12 : decode cX0_takeBack 12 = .ok (.iconst 1, 1) := by decide +kernel
theorem dX0_takeBack_13 : decode cX0_takeBack 13 = .ok (.isub, 1) := by decide +kernel
theorem dX0_takeBack_14 : decode cX0_takeBack 14 = .ok (.putfield 18, 3) := by decide +kernel
theorem dX0_takeBack_17 : decode cX0_takeBack 17 = .ok (.aload_n 1, 1) := by decide +kernel
theorem dX0_takeBack_18 : decode cX0_takeBack 18 = .ok (.aload_n 0, 1) := by decide +kernel
theorem dX0_takeBack_19 : decode cX0_takeBack 19 = .ok (.getfield 11, 3) := by decide +kernel
theorem dX0_takeBack_22 : decode cX0_takeBack 22 = .ok (.aload_n 0, 1) := by decide +kernel
theorem dX0_takeBack_23 : decode cX0_takeBack 23 = .ok (.getfield 22, 3) := by decide +kernel
theorem dX0_takeBack_26 : decode cX0_takeBack 26 = .ok (.aload_n 0, 1) := by decide +kernel
theorem dX0_takeBack_27 : decode cX0_takeBack 27 = .ok (.getfield 18, 3) := by decide +kernel
theorem dX0_takeBack_30 : decode cX0_takeBack 30 = .ok (.iadd, 1) := by decide +kernel
theorem dX0_takeBack_31 : decode cX0_takeBack 31 = .ok (.bipush 8, 2) := by decide +kernel
theorem dX0_takeBack_33 : decode cX0_takeBack 33 = .ok (.irem, 1) := by decide +kernel
theorem dX0_takeBack_34 : decode cX0_takeBack 34 = .ok (.aaload, 1) := by decide +kernel
theorem dX0_takeBack_35 : decode cX0_takeBack 35 = .ok (.invokevirtual 25, 3) := by decide +kernel
theorem dX0_takeBack_38 : decode cX0_takeBack 38 = .ok (.return_, 1) := by decide +kernel
set_option maxRecDepth 20000 in
theorem ggX0_become_X2_become : GoodIn wsX0_become wsX2_become := goodIn_r _ [8, 9, 10, 11, 12, 13, 14, 15, 16, 17, 18, 19, 20, 21, 22, 23, 24, 28, 29, 30, 31, 32, 33, 34, 35, 36, 37, 38, 39] (by decide +kernel) (by decide +kernel)
set_option maxRecDepth 20000 in
theorem gX0_become_X2_become : GoodIn wsX0_become (wsV RX0 25 RX2 yX2_become wsX2_become) := goodIn_app (goodIn_of _ (by decide +kernel)) ggX0_become_X2_become
theorem dX0_become_0 : decode cX0_become 0 = .ok (.aload_n 0, 1) := by decide +kernel
theorem dX0_become_1 : decode cX0_become 1 = .ok (.aload_n 1, 1) := by decide +kernel
theorem dX0_become_2 : decode cX0_become 2 = .ok (.getfield 22, 3) := by decide +kernel
theorem dX0_become_5 : decode cX0_become 5 = .ok (.putfield 22, 3) := by decide +kernel
theorem dX0_become_8 : decode cX0_become 8 = .ok (.aload_n 0, 1) := by decide +kernel
theorem dX0_become_9 : decode cX0_become 9 = .ok (.aload_n 1, 1) := by decide +kernel
theorem dX0_become_10 : decode cX0_become 10 = .ok (.getfield 18, 3) := by decide +kernel
theorem dX0_become_13 : decode cX0_become 13 = .ok (.putfield 18, 3) := by decide +kernel
theorem dX0_become_16 : decode cX0_become 16 = .ok (.iconst 0, 1) := by decide +kernel
theorem dX0_become_17 : decode cX0_become 17 = .ok (.istore_n 2, 1) := by decide +kernel
theorem dX0_become_18 : decode cX0_become 18 = .ok (.iload_n 2, 1) := by decide +kernel
theorem dX0_become_19 : decode cX0_become 19 = .ok (.bipush 8, 2) := by decide +kernel
theorem dX0_become_21 : decode cX0_become 21 = .ok (.if_icmp .ge 24, 3) := by decide +kernel
theorem dX0_become_24 : decode cX0_become 24 = .ok (.aload_n 0, 1) := by decide +kernel
theorem dX0_become_25 : decode cX0_become 25 = .ok (.getfield 11, 3) := by decide +kernel
theorem dX0_become_28 : decode cX0_become 28 = .ok (.iload_n 2, 1) := by decide +kernel
theorem dX0_become_29 : decode cX0_become 29 = .ok (.aaload, 1) := by decide +kernel
theorem dX0_become_30 : decode cX0_become 30 = .ok (.aload_n 1, 1) := by decide +kernel
theorem dX0_become_31 : decode cX0_become 31 = .ok (.getfield 11, 3) := by decide +kernel
theorem dX0_become_34 : decode cX0_become 34 = .ok (.iload_n 2, 1) := by decide +kernel
theorem dX0_become_35 : decode cX0_become 35 = .ok (.aaload, 1) := by decide +kernel
theorem dX0_become_36 : decode cX0_become 36 = .ok (.invokevirtual 25, 3) := by decide +kernel
theorem dX0_become_39 : decode cX0_become 39 = .ok (.iinc 2 1, 3) := by decide +kernel
theorem dX0_become_42 : decode cX0_become 42 = .ok (.goto (-24), 3) := by decide +kernel
theorem dX0_become_45 : decode cX0_become 45 = .ok (.return_, 1) := by decide +kernel
theorem dX1_init_0 : decode cX1_init 0 = .ok (.aload_n 0, 1) := by decide +kernel
theorem dX1_init_1 : decode cX1_init 1 = .ok (.invokespecial 3, 3) := by decide +kernel
theorem dX1_init_4 : decode cX1_init 4 = .ok (.return_, 1) := by decide +kernel
set_option maxRecDepth 20000 in
theorem ggX1_plan_X1_tryPair : GoodIn wsX1_plan wsX1_tryPair := goodIn_r _ [7, 8, 9, 10, 11, 12, 13, 14, 15, 16, 17, 18, 19, 20, 21, 22, 23, 24, 25, 26, 27, 28, 29, 30, 31, 32, 33, 34, 35, 36, 37, 38, 39, 40, 41, 42, 43, 44, 45, 46, 47, 48, 49, 50, 51, 52, 53, 54, 55, 56, 57, 58, 59, 60, 61, 62, 63, 64, 65, 66, 67, 68, 69, 70, 71, 72, 73, 6, 74, 1, 75, 76, 77, 78, 79, 80, 81, 86, 87, 88, 89, 90, 91, 92, 93, 94, 95, 96, 97, 82, 83, 84, 85] (by decide +kernel) (by decide +kernel)
set_option maxRecDepth 20000 in
theorem gX1_plan_X1_tryPair : GoodIn wsX1_plan (wsV RX1 21 RX1 yX1_tryPair wsX1_tryPair) := goodIn_app (goodIn_of _ (by decide +kernel)) ggX1_plan_X1_tryPair
theorem dX1_plan_0 : decode cX1_plan 0 = .ok (.aload_n 0, 1) := by decide +kernel
theorem dX1_plan_1 : decode cX1_plan 1 = .ok (.iconst 0, 1) := by decide +kernel
theorem dX1_plan_2 : decode cX1_plan 2 = .ok (.putfield 9, 3) := by decide +kernel
theorem dX1_plan_5 : decode cX1_plan 5 = .ok (.iconst 0, 1) := by decide +kernel
theorem dX1_plan_6 : decode cX1_plan 6 = .ok (.istore 4, 2) := by decide +kernel
theorem dX1_plan_8 : decode cX1_plan 8 = .ok (.iload 4, 2) := by decide +kernel
theorem dX1_plan_10 : decode cX1_plan 10 = .ok (.aload_n 1, 1) := by decide +kernel
theorem dX1_plan_11 : decode cX1_plan 11 = .ok (.getfield 15, 3) := by decide +kernel
theorem dX1_plan_14 : decode cX1_plan 14 = .ok (.if_icmp .ge 45, 3) := by decide +kernel
theorem dX1_plan_17 : decode cX1_plan 17 = .ok (.iconst 0, 1) := by decide +kernel
theorem dX1_plan_18 : decode cX1_plan 18 = .ok (.istore 5, 2) := by decide +kernel
theorem dX1_plan_20 : decode cX1_plan 20 = .ok (.iload 5, 2) := by decide +kernel
theorem dX1_plan_22 : decode cX1_plan 22 = .ok (.aload_n 1, 1) := by decide +kernel
theorem dX1_plan_23 : decode cX1_plan 23 = .ok (.getfield 15, 3) := by decide +kernel
theorem dX1_plan_26 : decode cX1_plan 26 = .ok (.if_icmp .ge 27, 3) := by decide +kernel
theorem dX1_plan_29 : decode cX1_plan 29 = .ok (.iload 4, 2) := by decide +kernel
theorem dX1_plan_31 : decode cX1_plan 31 = .ok (.iload 5, 2) := by decide +kernel
theorem dX1_plan_33 : decode cX1_plan 33 = .ok (.if_icmp .eq 14, 3) := by decide +kernel
theorem dX1_plan_36 : decode cX1_plan 36 = .ok (.aload_n 0, 1) := by decide +kernel
theorem dX1_plan_37 : decode cX1_plan 37 = .ok (.aload_n 1, 1) := by decide +kernel
theorem dX1_plan_38 : decode cX1_plan 38 = .ok (.aload_n 2, 1) := by decide +kernel
theorem dX1_plan_39 : decode cX1_plan 39 = .ok (.iload_n 3, 1) := by decide +kernel
theorem dX1_plan_40 : decode cX1_plan 40 = .ok (.iload 4, 2) := by decide +kernel
theorem dX1_plan_42 : decode cX1_plan 42 = .ok (.iload 5, 2) := by decide +kernel
theorem dX1_plan_44 : decode cX1_plan 44 = .ok (.invokevirtual 21, 3) := by decide +kernel
theorem dX1_plan_47 : decode cX1_plan 47 = .ok (.iinc 5 1, 3) := by decide +kernel
theorem dX1_plan_50 : decode cX1_plan 50 = .ok (.goto (-30), 3) := by decide +kernel
theorem dX1_plan_53 : decode cX1_plan 53 = .ok (.iinc 4 1, 3) := by decide +kernel
theorem dX1_plan_56 : decode cX1_plan 56 = .ok (.goto (-48), 3) := by decide +kernel
theorem dX1_plan_59 : decode cX1_plan 59 = .ok (.return_, 1) := by decide +kernel
set_option maxRecDepth 20000 in
theorem ggX1_tryPair_X2_become : GoodIn wsX1_tryPair wsX2_become := goodIn_r _ [6, 7, 8, 9, 10, 11, 12, 13, 14, 15, 16, 17, 18, 19, 20, 21, 22, 77, 78, 79, 80, 81, 82, 83, 84, 85, 86, 87, 88] (by decide +kernel) (by decide +kernel)
set_option maxRecDepth 20000 in
theorem gX1_tryPair_X2_become : GoodIn wsX1_tryPair (wsV RX1 25 RX2 yX2_become wsX2_become) := goodIn_app (goodIn_of _ (by decide +kernel)) ggX1_tryPair_X2_become
set_option maxRecDepth 20000 in
theorem ggX1_tryPair_X2_rubTimes : GoodIn wsX1_tryPair wsX2_rubTimes := goodIn_r _ [26, 27, 28, 29, 5, 30, 21, 31, 32, 33, 34, 35, 36, 37, 38, 12, 18, 39, 40, 41, 42, 19, 43, 44, 45, 46, 20, 47, 48, 49, 50, 17, 51, 52, 53, 10, 54, 55, 56, 57, 58, 59, 60, 61, 62, 77, 78, 79, 80, 81, 82, 83, 84, 85, 86, 87, 88] (by decide +kernel) (by decide +kernel)
set_option maxRecDepth 20000 in
theorem gX1_tryPair_X2_rubTimes : GoodIn wsX1_tryPair (wsV RX1 29 RX2 yX2_rubTimes wsX2_rubTimes) := goodIn_app (goodIn_of _ (by decide +kernel)) ggX1_tryPair_X2_rubTimes
set_option maxRecDepth 20000 in
theorem ggX1_tryPair_X2_isGone : GoodIn wsX1_tryPair wsX2_isGone := goodIn_r _ [38, 12, 18, 77, 78, 79, 80, 81, 82, 83, 84, 85, 86, 87, 88] (by decide +kernel) (by decide +kernel)
set_option maxRecDepth 20000 in
theorem gX1_tryPair_X2_isGone : GoodIn wsX1_tryPair (wsV RX1 33 RX2 yX2_isGone wsX2_isGone) := goodIn_app (goodIn_of _ (by decide +kernel)) ggX1_tryPair_X2_isGone
set_option maxRecDepth 20000 in
theorem ggX1_tryPair_X1_weigh : GoodIn wsX1_tryPair wsX1_weigh := goodIn_r _ [68, 69, 70, 71, 72, 73, 74, 75, 67, 76, 89, 90, 91, 92] (by decide +kernel) (by decide +kernel)
set_option maxRecDepth 20000 in
theorem gX1_tryPair_X1_weigh : GoodIn wsX1_tryPair (wsV RX1 40 RX1 yX1_weigh wsX1_weigh) := goodIn_app (goodIn_of _ (by decide +kernel)) ggX1_tryPair_X1_weigh
theorem dX1_tryPair_0 : decode cX1_tryPair 0 = .ok (.iconst 1, 1) := by decide +kernel
theorem dX1_tryPair_1 : decode cX1_tryPair 1 = .ok (.istore 6, 2) := by decide +kernel
theorem dX1_tryPair_3 : decode cX1_tryPair 3 = .ok (.iconst 0, 1) := by decide +kernel
theorem dX1_tryPair_4 : decode cX1_tryPair 4 = .ok (.istore 7, 2) := by decide +kernel
theorem dX1_tryPair_6 : decode cX1_tryPair 6 = .ok (.iload 7, 2) := by decide +kernel
theorem dX1_tryPair_8 : decode cX1_tryPair 8 = .ok (.bipush 60, 2) := by decide +kernel
theorem dX1_tryPair_10 : decode cX1_tryPair 10 = .ok (.if_icmp .gt 89, 3) := by decide +kernel
theorem dX1_tryPair_13 : decode cX1_tryPair 13 = .ok (.iload 6, 2) := by decide +kernel
theorem dX1_tryPair_15 : decode cX1_tryPair 15 = .ok (.ifCond .eq 84, 3) := by decide +kernel
theorem dX1_tryPair_18 : decode cX1_tryPair 18 = .ok (.aload_n 2, 1) := by decide +kernel
theorem dX1_tryPair_19 : decode cX1_tryPair 19 = .ok (.aload_n 1, 1) := by decide +kernel
theorem dX1_tryPair_20 : decode cX1_tryPair 20 = .ok (.invokevirtual 25, 3) := by decide +kernel
theorem dX1_tryPair_23 : decode cX1_tryPair 23 = .ok (.aload_n 2, 1) := by decide +kernel
theorem dX1_tryPair_24 : decode cX1_tryPair 24 = .ok (.iload 4, 2) := by decide +kernel
theorem dX1_tryPair_26 : decode cX1_tryPair 26 = .ok (.iload_n 3, 1) := by decide +kernel
theorem dX1_tryPair_27 : decode cX1_tryPair 27 = .ok (.iload 7, 2) := by decide +kernel
theorem dX1_tryPair_29 : decode cX1_tryPair 29 = .ok (.invokevirtual 29, 3) := by decide +kernel
theorem dX1_tryPair_32 : decode cX1_tryPair 32 = .ok (.iload 7, 2) := by decide +kernel
theorem dX1_tryPair_34 : decode cX1_tryPair 34 = .ok (.if_icmp .ne 7, 3) := by decide +kernel
theorem dX1_tryPair_37 : decode cX1_tryPair 37 = .ok (.iconst 1, 1) := by decide +kernel
theorem dX1_tryPair_38 : decode cX1_tryPair 38 = .ok (.goto 4, 3) := by decide +kernel
theorem dX1_tryPair_41 : decode cX1_tryPair 41 = .ok (.iconst 0, 1) := by decide +kernel
theorem dX1_tryPair_42 : decode cX1_tryPair 42 = .ok (.istore 6, 2) := by decide +kernel
theorem dX1_tryPair_44 : decode cX1_tryPair 44 = .ok (.aload_n 2, 1) := by decide +kernel
theorem dX1_tryPair_45 : decode cX1_tryPair 45 = .ok (.iload 5, 2) := by decide +kernel
theorem dX1_tryPair_47 : decode cX1_tryPair 47 = .ok (.iload_n 3, 1) := by decide +kernel
theorem dX1_tryPair_48 : decode cX1_tryPair 48 = .ok (.bipush 60, 2) := by decide +kernel
theorem dX1_tryPair_50 : decode cX1_tryPair 50 = .ok (.iload 7, 2) := by decide +kernel
theorem dX1_tryPair_52 : decode cX1_tryPair 52 = .ok (.isub, 1) := by decide +kernel
theorem dX1_tryPair_53 : decode cX1_tryPair 53 = .ok (.invokevirtual 29, 3) := by decide +kernel
theorem dX1_tryPair_56 : decode cX1_tryPair 56 = .ok (.pop, 1) := by decide +kernel
theorem dX1_tryPair_57 : decode cX1_tryPair 57 = .ok (.iload 6, 2) := by decide +kernel
theorem dX1_tryPair_59 : decode cX1_tryPair 59 = .ok (.ifCond .eq 34, 3) := by decide +kernel
theorem dX1_tryPair_62 : decode cX1_tryPair 62 = .ok (.aload_n 2, 1) := by decide +kernel
theorem dX1_tryPair_63 : decode cX1_tryPair 63 = .ok (.iload_n 3, 1) := by decide +kernel
theorem dX1_tryPair_64 : decode cX1_tryPair 64 = .ok (.invokevirtual 33, 3) := by decide +kernel
theorem dX1_tryPair_67 : decode cX1_tryPair 67 = .ok (.ifCond .eq 26, 3) := by decide +kernel
theorem dX1_tryPair_70 : decode cX1_tryPair 70 = .ok (.aload_n 0, 1) := by decide +kernel
theorem dX1_tryPair_71 : decode cX1_tryPair 71 = .ok (.aload_n 2, 1) := by decide +kernel
theorem dX1_tryPair_72 : decode cX1_tryPair 72 = .ok (.getfield 37, 3) := by decide +kernel
theorem dX1_tryPair_75 : decode cX1_tryPair 75 = .ok (.aload_n 1, 1) := by decide +kernel
theorem dX1_tryPair_76 : decode cX1_tryPair 76 = .ok (.getfield 37, 3) := by decide +kernel
theorem dX1_tryPair_79 : decode cX1_tryPair 79 = .ok (.isub, 1) := by decide +kernel
theorem dX1_tryPair_80 : decode cX1_tryPair 80 = .ok (.iload 7, 2) := by decide +kernel
theorem dX1_tryPair_82 : decode cX1_tryPair 82 = .ok (.bipush 10, 2) := by decide +kernel
theorem dX1_tryPair_84 : decode cX1_tryPair 84 = .ok (.iload 4, 2) := by decide +kernel
theorem dX1_tryPair_86 : decode cX1_tryPair 86 = .ok (.imul, 1) := by decide +kernel
theorem dX1_tryPair_87 : decode cX1_tryPair 87 = .ok (.iload 5, 2) := by decide +kernel
theorem dX1_tryPair_89 : decode cX1_tryPair 89 = .ok (.iadd, 1) := by decide +kernel
theorem dX1_tryPair_90 : decode cX1_tryPair 90 = .ok (.invokevirtual 40, 3) := by decide +kernel
theorem dX1_tryPair_93 : decode cX1_tryPair 93 = .ok (.iinc 7 1, 3) := by decide +kernel
theorem dX1_tryPair_96 : decode cX1_tryPair 96 = .ok (.goto (-90), 3) := by decide +kernel
theorem dX1_tryPair_99 : decode cX1_tryPair 99 = .ok (.return_, 1) := by decide +kernel
set_option maxRecDepth 20000 in
theorem ggX1_weigh_X1_isLess : GoodIn wsX1_weigh wsX1_isLess := goodIn_r _ [9, 2, 3, 4, 10, 11, 12, 13] (by decide +kernel) (by decide +kernel)
set_option maxRecDepth 20000 in
theorem gX1_weigh_X1_isLess : GoodIn wsX1_weigh (wsV RX1 44 RX1 yX1_isLess wsX1_isLess) := goodIn_app (goodIn_of _ (by decide +kernel)) ggX1_weigh_X1_isLess
theorem dX1_weigh_0 : decode cX1_weigh 0 = .ok (.aload_n 0, 1) := by decide +kernel
theorem dX1_weigh_1 : decode cX1_weigh 1 = .ok (.getfield 9, 3) := by decide +kernel
theorem dX1_weigh_4 : decode cX1_weigh 4 = .ok (.ifCond .eq 13, 3) := by decide +kernel
theorem dX1_weigh_7 : decode cX1_weigh 7 = .ok (.aload_n 0, 1) := by decide +kernel
theorem dX1_weigh_8 : decode cX1_weigh 8 = .ok (.iload_n 1, 1) := by decide +kernel
theorem dX1_weigh_9 : decode cX1_weigh 9 = .ok (.iload_n 2, 1) := by decide +kernel
theorem dX1_weigh_10 : decode cX1_weigh 10 = .ok (.iload_n 3, 1) := by decide +kernel
theorem dX1_weigh_11 : decode cX1_weigh 11 = .ok (.invokevirtual 44, 3) := by decide +kernel
theorem dX1_weigh_14 : decode cX1_weigh 14 = .ok (.ifCond .eq 23, 3) := by decide +kernel
theorem dX1_weigh_17 : decode cX1_weigh 17 = .ok (.aload_n 0, 1) := by decide +kernel
theorem dX1_weigh_18 : decode cX1_weigh 18 = .ok (.iconst 1, 1) := by decide +kernel
theorem dX1_weigh_19 : decode cX1_weigh 19 = .ok (.putfield 9, 3) := by decide +kernel
theorem dX1_weigh_22 : decode cX1_weigh 22 = .ok (.aload_n 0, 1) := by decide +kernel
theorem dX1_weigh_23 : decode cX1_weigh 23 = .ok (.iload_n 1, 1) := by decide +kernel
theorem dX1_weigh_24 : decode cX1_weigh 24 = .ok (.putfield 48, 3) := by decide +kernel
theorem dX1_weigh_27 : decode cX1_weigh 27 = .ok (.aload_n 0, 1) := by decide +kernel
theorem dX1_weigh_28 : decode cX1_weigh 28 = .ok (.iload_n 2, 1) := by decide +kernel
theorem dX1_weigh_29 : decode cX1_weigh 29 = .ok (.putfield 49, 3) := by decide +kernel
theorem dX1_weigh_32 : decode cX1_weigh 32 = .ok (.aload_n 0, 1) := by decide +kernel
theorem dX1_weigh_33 : decode cX1_weigh 33 = .ok (.iload_n 3, 1) := by decide +kernel
theorem dX1_weigh_34 : decode cX1_weigh 34 = .ok (.putfield 52, 3) := by decide +kernel
theorem dX1_weigh_37 : decode cX1_weigh 37 = .ok (.return_, 1) := by decide +kernel
theorem dX1_isLess_0 : decode cX1_isLess 0 = .ok (.iload_n 1, 1) := by decide +kernel
theorem dX1_isLess_1 : decode cX1_isLess 1 = .ok (.aload_n 0, 1) := by decide +kernel
theorem dX1_isLess_2 : decode cX1_isLess 2 = .ok (.getfield 48, 3) := by decide +kernel
theorem dX1_isLess_5 : decode cX1_isLess 5 = .ok (.if_icmp .eq 17, 3) := by decide +kernel
theorem dX1_isLess_8 : decode cX1_isLess 8 = .ok (.iload_n 1, 1) := by decide +kernel
theorem dX1_isLess_9 : decode cX1_isLess 9 = .ok (.aload_n 0, 1) := by decide +kernel
theorem dX1_isLess_10 : decode cX1_isLess 10 = .ok (.getfield 48, 3) := by decide +kernel
theorem dX1_isLess_13 : decode cX1_isLess 13 = .ok (.if_icmp .ge 7, 3) := by decide +kernel
theorem dX1_isLess_16 : decode cX1_isLess 16 = .ok (.iconst 1, 1) := by decide +kernel
theorem dX1_isLess_17 : decode cX1_isLess 17 = .ok (.goto 4, 3) := by decide +kernel
theorem dX1_isLess_20 : decode cX1_isLess 20 = .ok (.iconst 0, 1) := by decide +kernel
theorem dX1_isLess_21 : decode cX1_isLess 21 = .ok (.ireturn, 1) := by decide +kernel
theorem dX1_isLess_22 : decode cX1_isLess 22 = .ok (.iload_n 2, 1) := by decide +kernel
theorem dX1_isLess_23 : decode cX1_isLess 23 = .ok (.aload_n 0, 1) := by decide +kernel
theorem dX1_isLess_24 : decode cX1_isLess 24 = .ok (.getfield 49, 3) := by decide +kernel
theorem dX1_isLess_27 : decode cX1_isLess 27 = .ok (.if_icmp .eq 19, 3) := by decide +kernel
theorem dX1_isLess_30 : decode cX1_isLess 30 = .ok (.iload_n 2, 1) := by decide +kernel
theorem dX1_isLess_31 : decode cX1_isLess 31 = .ok (.aload_n 0, 1) := by decide +kernel
theorem dX1_isLess_32 : decode cX1_isLess 32 = .ok (.getfield 49, 3) := by decide +kernel
theorem dX1_isLess_35 : decode cX1_isLess 35 = .ok (.if_icmp .ge 7, 3) := by decide +kernel
theorem dX1_isLess_38 : decode cX1_isLess 38 = .ok (.iconst 1, 1) := by decide +kernel
theorem dX1_isLess_39 : decode cX1_isLess 39 = .ok (.goto 20, 3) := by decide +kernel
theorem dX1_isLess_42 : decode cX1_isLess 42 = .ok (.iconst 0, 1) := by decide +kernel
theorem dX1_isLess_43 : decode cX1_isLess 43 = .ok (.goto 16, 3) := by decide +kernel
theorem dX1_isLess_46 : decode cX1_isLess 46 = .ok (.iload_n 3, 1) := by decide +kernel
theorem dX1_isLess_47 : decode cX1_isLess 47 = .ok (.aload_n 0, 1) := by decide +kernel
theorem dX1_isLess_48 : decode cX1_isLess 48 = .ok (.getfield 52, 3) := by decide +kernel
theorem dX1_isLess_51 : decode cX1_isLess 51 = .ok (.if_icmp .ge 7, 3) := by decide +kernel
theorem dX1_isLess_54 : decode cX1_isLess 54 = .ok (.iconst 1, 1) := by decide +kernel
theorem dX1_isLess_55 : decode cX1_isLess 55 = .ok (.goto 4, 3) := by decide +kernel
theorem dX1_isLess_58 : decode cX1_isLess 58 = .ok (.iconst 0, 1) := by decide +kernel
theorem dX1_isLess_59 : decode cX1_isLess 59 = .ok (.ireturn, 1) := by decide +kernel
theorem dX2_init_0 : decode cX2_init 0 = .ok (.aload_n 0, 1) := by decide +kernel
theorem dX2_init_1 : decode cX2_init 1 = .ok (.invokespecial 3, 3) := by decide +kernel
theorem dX2_init_4 : decode cX2_init 4 = .ok (.aload_n 0, 1) := by decide +kernel
theorem dX2_init_5 : decode cX2_init 5 = .ok (.iconst 1, 1) := by decide +kernel
theorem dX2_init_6 : decode cX2_init 6 = .ok (.putfield 9, 3) := by decide +kernel
theorem dX2_init_9 : decode cX2_init 9 = .ok (.aload_n 0, 1) := by decide +kernel
theorem dX2_init_10 : decode cX2_init 10 = .ok (.bipush 6, 2) := by decide +kernel
theorem dX2_init_12 : decode cX2_init 12 = .ok (.newarray .int, 2) := by decide +kernel
theorem dX2_init_14 : decode cX2_init 14 = .ok (.putfield 15, 3) := by decide +kernel
theorem dX2_init_17 : decode cX2_init 17 = .ok (.aload_n 0, 1) := by decide +kernel
theorem dX2_init_18 : decode cX2_init 18 = .ok (.bipush 6, 2) := by decide +kernel
theorem dX2_init_20 : decode cX2_init 20 = .ok (.newarray .int, 2) := by decide +kernel
theorem dX2_init_22 : decode cX2_init 22 = .ok (.putfield 19, 3) := by decide +kernel
theorem dX2_init_25 : decode cX2_init 25 = .ok (.aload_n 0, 1) := by decide +kernel
theorem dX2_init_26 : decode cX2_init 26 = .ok (.bipush 6, 2) := by decide +kernel
theorem dX2_init_28 : decode cX2_init 28 = .ok (.newarray .int, 2) := by decide +kernel
theorem dX2_init_30 : decode cX2_init 30 = .ok (.putfield 22, 3) := by decide +kernel
theorem dX2_init_33 : decode cX2_init 33 = .ok (.aload_n 0, 1) := by decide +kernel
theorem dX2_init_34 : decode cX2_init 34 = .ok (.bipush 6, 2) := by decide +kernel
theorem dX2_init_36 : decode cX2_init 36 = .ok (.newarray .int, 2) := by decide +kernel
theorem dX2_init_38 : decode cX2_init 38 = .ok (.putfield 25, 3) := by decide +kernel
theorem dX2_init_41 : decode cX2_init 41 = .ok (.aload_n 0, 1) := by decide +kernel
theorem dX2_init_42 : decode cX2_init 42 = .ok (.iconst 5, 1) := by decide +kernel
theorem dX2_init_43 : decode cX2_init 43 = .ok (.newarray .int, 2) := by decide +kernel
theorem dX2_init_45 : decode cX2_init 45 = .ok (.putfield 28, 3) := by decide +kernel
theorem dX2_init_48 : decode cX2_init 48 = .ok (.aload_n 0, 1) := by decide +kernel
theorem dX2_init_49 : decode cX2_init 49 = .ok (.iconst 5, 1) := by decide +kernel
theorem dX2_init_50 : decode cX2_init 50 = .ok (.newarray .int, 2) := by decide +kernel
theorem dX2_init_52 : decode cX2_init 52 = .ok (.putfield 31, 3) := by decide +kernel
theorem dX2_init_55 : decode cX2_init 55 = .ok (.aload_n 0, 1) := by decide +kernel
theorem dX2_init_56 : decode cX2_init 56 = .ok (.iconst 5, 1) := by decide +kernel
theorem dX2_init_57 : decode cX2_init 57 = .ok (.newarray .int, 2) := by decide +kernel
theorem dX2_init_59 : decode cX2_init 59 = .ok (.putfield 34, 3) := by decide +kernel
theorem dX2_init_62 : decode cX2_init 62 = .ok (.return_, 1) := by decide +kernel
theorem dX2_become_0 : decode cX2_become 0 = .ok (.aload_n 0, 1) := by decide +kernel
theorem dX2_become_1 : decode cX2_become 1 = .ok (.aload_n 1, 1) := by decide +kernel
theorem dX2_become_2 : decode cX2_become 2 = .ok (.getfield 37, 3) := by decide +kernel
theorem dX2_become_5 : decode cX2_become 5 = .ok (.putfield 37, 3) := by decide +kernel
theorem dX2_become_8 : decode cX2_become 8 = .ok (.aload_n 0, 1) := by decide +kernel
theorem dX2_become_9 : decode cX2_become 9 = .ok (.aload_n 1, 1) := by decide +kernel
theorem dX2_become_10 : decode cX2_become 10 = .ok (.getfield 40, 3) := by decide +kernel
theorem dX2_become_13 : decode cX2_become 13 = .ok (.putfield 40, 3) := by decide +kernel
theorem dX2_become_16 : decode cX2_become 16 = .ok (.aload_n 0, 1) := by decide +kernel
theorem dX2_become_17 : decode cX2_become 17 = .ok (.aload_n 1, 1) := by decide +kernel
theorem dX2_become_18 : decode cX2_become 18 = .ok (.getfield 43, 3) := by decide +kernel
theorem dX2_become_21 : decode cX2_become 21 = .ok (.putfield 43, 3) := by decide +kernel
theorem dX2_become_24 : decode cX2_become 24 = .ok (.aload_n 0, 1) := by decide +kernel
theorem dX2_become_25 : decode cX2_become 25 = .ok (.aload_n 1, 1) := by decide +kernel
theorem dX2_become_26 : decode cX2_become 26 = .ok (.getfield 46, 3) := by decide +kernel
theorem dX2_become_29 : decode cX2_become 29 = .ok (.putfield 46, 3) := by decide +kernel
theorem dX2_become_32 : decode cX2_become 32 = .ok (.aload_n 0, 1) := by decide +kernel
theorem dX2_become_33 : decode cX2_become 33 = .ok (.aload_n 1, 1) := by decide +kernel
theorem dX2_become_34 : decode cX2_become 34 = .ok (.getfield 9, 3) := by decide +kernel
theorem dX2_become_37 : decode cX2_become 37 = .ok (.putfield 9, 3) := by decide +kernel
theorem dX2_become_40 : decode cX2_become 40 = .ok (.aload_n 1, 1) := by decide +kernel
theorem dX2_become_41 : decode cX2_become 41 = .ok (.getfield 15, 3) := by decide +kernel
theorem dX2_become_44 : decode cX2_become 44 = .ok (.iconst 0, 1) := by decide +kernel
theorem dX2_become_45 : decode cX2_become 45 = .ok (.aload_n 0, 1) := by decide +kernel
theorem dX2_become_46 : decode cX2_become 46 = .ok (.getfield 15, 3) := by decide +kernel
theorem dX2_become_49 : decode cX2_become 49 = .ok (.iconst 0, 1) := by decide +kernel
theorem dX2_become_50 : decode cX2_become 50 = .ok (.bipush 6, 2) := by decide +kernel
theorem dX2_become_52 : decode cX2_become 52 = .ok (.invokestatic 49, 3) := by decide +kernel
theorem dX2_become_55 : decode cX2_become 55 = .ok (.aload_n 1, 1) := by decide +kernel
theorem dX2_become_56 : decode cX2_become 56 = .ok (.getfield 19, 3) := by decide +kernel
theorem dX2_become_59 : decode cX2_become 59 = .ok (.iconst 0, 1) := by decide +kernel
theorem dX2_become_60 : decode cX2_become 60 = .ok (.aload_n 0, 1) := by decide +kernel
theorem dX2_become_61 : decode cX2_become 61 = .ok (.getfield 19, 3) := by decide +kernel
theorem dX2_become_64 : decode cX2_become 64 = .ok (.iconst 0, 1) := by decide +kernel
theorem dX2_become_65 : decode cX2_become 65 = .ok (.bipush 6, 2) := by decide +kernel
theorem dX2_become_67 : decode cX2_become 67 = .ok (.invokestatic 49, 3) := by decide +kernel
theorem dX2_become_70 : decode cX2_become 70 = .ok (.aload_n 1, 1) := by decide +kernel
theorem dX2_become_71 : decode cX2_become 71 = .ok (.getfield 22, 3) := by decide +kernel
theorem dX2_become_74 : decode cX2_become 74 = .ok (.iconst 0, 1) := by decide +kernel
theorem dX2_become_75 : decode cX2_become 75 = .ok (.aload_n 0, 1) := by decide +kernel
theorem dX2_become_76 : decode cX2_become 76 = .ok (.getfield 22, 3) := by decide +kernel
theorem dX2_become_79 : decode cX2_become 79 = .ok (.iconst 0, 1) := by decide +kernel
theorem dX2_become_80 : decode cX2_become 80 = .ok (.bipush 6, 2) := by decide +kernel
theorem dX2_become_82 : decode cX2_become 82 = .ok (.invokestatic 49, 3) := by decide +kernel
theorem dX2_become_85 : decode cX2_become 85 = .ok (.aload_n 1, 1) := by decide +kernel
theorem dX2_become_86 : decode cX2_become 86 = .ok (.getfield 25, 3) := by decide +kernel
theorem dX2_become_89 : decode cX2_become 89 = .ok (.iconst 0, 1) := by decide +kernel
theorem dX2_become_90 : decode cX2_become 90 = .ok (.aload_n 0, 1) := by decide +kernel
theorem dX2_become_91 : decode cX2_become 91 = .ok (.getfield 25, 3) := by decide +kernel
theorem dX2_become_94 : decode cX2_become 94 = .ok (.iconst 0, 1) := by decide +kernel
theorem dX2_become_95 : decode cX2_become 95 = .ok (.bipush 6, 2) := by decide +kernel
theorem dX2_become_97 : decode cX2_become 97 = .ok (.invokestatic 49, 3) := by decide +kernel
theorem dX2_become_100 : decode cX2_become 100 = .ok (.aload_n 1, 1) := by decide +kernel
theorem dX2_become_101 : decode cX2_become 101 = .ok (.getfield 28, 3) := by decide +kernel
theorem dX2_become_104 : decode cX2_become 104 = .ok (.iconst 0, 1) := by decide +kernel
theorem dX2_become_105 : decode cX2_become 105 = .ok (.aload_n 0, 1) := by decide +kernel
theorem dX2_become_106 : decode cX2_become 106 = .ok (.getfield 28, 3) := by decide +kernel
theorem dX2_become_109 : decode cX2_become 109 = .ok (.iconst 0, 1) := by decide +kernel
theorem dX2_become_110 : decode cX2_become 110 = .ok (.iconst 5, 1) := by decide +kernel
theorem dX2_become_111 : decode cX2_become 111 = .ok (.invokestatic 49, 3) := by decide +kernel
theorem dX2_become_114 : decode cX2_become 114 = .ok (.aload_n 1, 1) := by decide +kernel
theorem dX2_become_115 : decode cX2_become 115 = .ok (.getfield 31, 3) := by decide +kernel
theorem dX2_become_118 : decode cX2_become 118 = .ok (.iconst 0, 1) := by decide +kernel
theorem dX2_become_119 : decode cX2_become 119 = .ok (.aload_n 0, 1) := by decide +kernel
theorem dX2_become_120 : decode cX2_become 120 = .ok (.getfield 31, 3) := by decide +kernel
theorem dX2_become_123 : decode cX2_become 123 = .ok (.iconst 0, 1) := by decide +kernel
theorem dX2_become_124 : decode cX2_become 124 = .ok (.iconst 5, 1) := by decide +kernel
theorem dX2_become_125 : decode cX2_become 125 = .ok (.invokestatic 49, 3) := by decide +kernel
theorem dX2_become_128 : decode cX2_become 128 = .ok (.aload_n 1, 1) := by decide +kernel
theorem dX2_become_129 : decode cX2_become 129 = .ok (.getfield 34, 3) := by decide +kernel
theorem dX2_become_132 : decode cX2_become 132 = .ok (.iconst 0, 1) := by decide +kernel
theorem dX2_become_133 : decode cX2_become 133 = .ok (.aload_n 0, 1) := by decide +kernel
theorem dX2_become_134 : decode cX2_become 134 = .ok (.getfield 34, 3) := by decide +kernel
theorem dX2_become_137 : decode cX2_become 137 = .ok (.iconst 0, 1) := by decide +kernel
theorem dX2_become_138 : decode cX2_become 138 = .ok (.iconst 5, 1) := by decide +kernel
theorem dX2_become_139 : decode cX2_become 139 = .ok (.invokestatic 49, 3) := by decide +kernel
theorem dX2_become_142 : decode cX2_become 142 = .ok (.return_, 1) := by decide +kernel
theorem dX2_markAsIn_0 : decode cX2_markAsIn 0 = .ok (.aload_n 0, 1) := by decide +kernel
theorem dX2_markAsIn_1 : decode cX2_markAsIn 1 = .ok (.getfield 15, 3) := by decide +kernel
theorem dX2_markAsIn_4 : decode cX2_markAsIn 4 = .ok (.iload_n 2, 1) := by decide +kernel
theorem dX2_markAsIn_5 : decode cX2_markAsIn 5 = .ok (.aload_n 1, 1) := by decide +kernel
theorem dX2_markAsIn_6 : decode cX2_markAsIn 6 = .ok (.getfield 15, 3) := by decide +kernel
theorem dX2_markAsIn_9 : decode cX2_markAsIn 9 = .ok (.iload_n 2, 1) := by decide +kernel
theorem dX2_markAsIn_10 : decode cX2_markAsIn 10 = .ok (.iaload, 1) := by decide +kernel
theorem dX2_markAsIn_11 : decode cX2_markAsIn 11 = .ok (.iastore, 1) := by decide +kernel
theorem dX2_markAsIn_12 : decode cX2_markAsIn 12 = .ok (.aload_n 0, 1) := by decide +kernel
theorem dX2_markAsIn_13 : decode cX2_markAsIn 13 = .ok (.getfield 19, 3) := by decide +kernel
theorem dX2_markAsIn_16 : decode cX2_markAsIn 16 = .ok (.iload_n 2, 1) := by decide +kernel
theorem dX2_markAsIn_17 : decode cX2_markAsIn 17 = .ok (.aload_n 1, 1) := by decide +kernel
theorem dX2_markAsIn_18 : decode cX2_markAsIn 18 = .ok (.getfield 19, 3) := by decide +kernel
theorem dX2_markAsIn_21 : decode cX2_markAsIn 21 = .ok (.iload_n 2, 1) := by decide +kernel
theorem dX2_markAsIn_22 : decode cX2_markAsIn 22 = .ok (.iaload, 1) := by decide +kernel
theorem dX2_markAsIn_23 : decode cX2_markAsIn 23 = .ok (.iastore, 1) := by decide +kernel
theorem dX2_markAsIn_24 : decode cX2_markAsIn 24 = .ok (.aload_n 0, 1) := by decide +kernel
theorem dX2_markAsIn_25 : decode cX2_markAsIn 25 = .ok (.getfield 22, 3) := by decide +kernel
theorem dX2_markAsIn_28 : decode cX2_markAsIn 28 = .ok (.iload_n 2, 1) := by decide +kernel
theorem dX2_markAsIn_29 : decode cX2_markAsIn 29 = .ok (.aload_n 1, 1) := by decide +kernel
theorem dX2_markAsIn_30 : decode cX2_markAsIn 30 = .ok (.getfield 22, 3) := by decide +kernel
theorem dX2_markAsIn_33 : decode cX2_markAsIn 33 = .ok (.iload_n 2, 1) := by decide +kernel
theorem dX2_markAsIn_34 : decode cX2_markAsIn 34 = .ok (.iaload, 1) := by decide +kernel
theorem dX2_markAsIn_35 : decode cX2_markAsIn 35 = .ok (.iastore, 1) := by decide +kernel
theorem dX2_markAsIn_36 : decode cX2_markAsIn 36 = .ok (.aload_n 0, 1) := by decide +kernel
theorem dX2_markAsIn_37 : decode cX2_markAsIn 37 = .ok (.getfield 25, 3) := by decide +kernel
theorem dX2_markAsIn_40 : decode cX2_markAsIn 40 = .ok (.iload_n 2, 1) := by decide +kernel
theorem dX2_markAsIn_41 : decode cX2_markAsIn 41 = .ok (.aload_n 1, 1) := by decide +kernel
theorem dX2_markAsIn_42 : decode cX2_markAsIn 42 = .ok (.getfield 25, 3) := by decide +kernel
theorem dX2_markAsIn_45 : decode cX2_markAsIn 45 = .ok (.iload_n 2, 1) := by decide +kernel
theorem dX2_markAsIn_46 : decode cX2_markAsIn 46 = .ok (.iaload, 1) := by decide +kernel
theorem dX2_markAsIn_47 : decode cX2_markAsIn 47 = .ok (.iastore, 1) := by decide +kernel
theorem dX2_markAsIn_48 : decode cX2_markAsIn 48 = .ok (.return_, 1) := by decide +kernel
theorem dX2_clear_0 : decode cX2_clear 0 = .ok (.aload_n 0, 1) := by decide +kernel
theorem dX2_clear_1 : decode cX2_clear 1 = .ok (.iconst 0, 1) := by decide +kernel
theorem dX2_clear_2 : decode cX2_clear 2 = .ok (.putfield 37, 3) := by decide +kernel
theorem dX2_clear_5 : decode cX2_clear 5 = .ok (.aload_n 0, 1) := by decide +kernel
theorem dX2_clear_6 : decode cX2_clear 6 = .ok (.iconst 0, 1) := by decide +kernel
theorem dX2_clear_7 : decode cX2_clear 7 = .ok (.putfield 40, 3) := by decide +kernel
theorem dX2_clear_10 : decode cX2_clear 10 = .ok (.aload_n 0, 1) := by decide +kernel
theorem dX2_clear_11 : decode cX2_clear 11 = .ok (.iconst 0, 1) := by decide +kernel
theorem dX2_clear_12 : decode cX2_clear 12 = .ok (.putfield 43, 3) := by decide +kernel
theorem dX2_clear_15 : decode cX2_clear 15 = .ok (.aload_n 0, 1) := by decide +kernel
theorem dX2_clear_16 : decode cX2_clear 16 = .ok (.iconst 0, 1) := by decide +kernel
theorem dX2_clear_17 : decode cX2_clear 17 = .ok (.putfield 46, 3) := by decide +kernel
theorem dX2_clear_20 : decode cX2_clear 20 = .ok (.return_, 1) := by decide +kernel
theorem dX2_addMark_0 : decode cX2_addMark 0 = .ok (.aload_n 0, 1) := by decide +kernel
theorem dX2_addMark_1 : decode cX2_addMark 1 = .ok (.getfield 37, 3) := by decide +kernel
theorem dX2_addMark_4 : decode cX2_addMark 4 = .ok (.istore 4, 2) := by decide +kernel
theorem dX2_addMark_6 : decode cX2_addMark 6 = .ok (.aload_n 0, 1) := by decide +kernel
theorem dX2_addMark_7 : decode cX2_addMark 7 = .ok (.getfield 15, 3) := by decide +kernel
theorem dX2_addMark_10 : decode cX2_addMark 10 = .ok (.iload 4, 2) := by decide +kernel
theorem dX2_addMark_12 : decode cX2_addMark 12 = .ok (.iload_n 1, 1) := by decide +kernel
theorem dX2_addMark_13 : decode cX2_addMark 13 = .ok (.iastore, 1) := by decide +kernel
theorem dX2_addMark_14 : decode cX2_addMark 14 = .ok (.aload_n 0, 1) := by decide +kernel
theorem dX2_addMark_15 : decode cX2_addMark 15 = .ok (.getfield 19, 3) := by decide +kernel
theorem dX2_addMark_18 : decode cX2_addMark 18 = .ok (.iload 4, 2) := by decide +kernel
theorem dX2_addMark_20 : decode cX2_addMark 20 = .ok (.iload_n 2, 1) := by decide +kernel
theorem dX2_addMark_21 : decode cX2_addMark 21 = .ok (.iastore, 1) := by decide +kernel
theorem dX2_addMark_22 : decode cX2_addMark 22 = .ok (.aload_n 0, 1) := by decide +kernel
theorem dX2_addMark_23 : decode cX2_addMark 23 = .ok (.getfield 22, 3) := by decide +kernel
theorem dX2_addMark_26 : decode cX2_addMark 26 = .ok (.iload 4, 2) := by decide +kernel
theorem dX2_addMark_28 : decode cX2_addMark 28 = .ok (.iload_n 3, 1) := by decide +kernel
theorem dX2_addMark_29 : decode cX2_addMark 29 = .ok (.iastore, 1) := by decide +kernel
theorem dX2_addMark_30 : decode cX2_addMark 30 = .ok (.aload_n 0, 1) := by decide +kernel
theorem dX2_addMark_31 : decode cX2_addMark 31 = .ok (.getfield 25, 3) := by decide +kernel
theorem dX2_addMark_34 : decode cX2_addMark 34 = .ok (.iload 4, 2) := by decide +kernel
theorem dX2_addMark_36 : decode cX2_addMark 36 = .ok (.iconst 0, 1) := by decide +kernel
theorem dX2_addMark_37 : decode cX2_addMark 37 = .ok (.iastore, 1) := by decide +kernel
theorem dX2_addMark_38 : decode cX2_addMark 38 = .ok (.aload_n 0, 1) := by decide +kernel
theorem dX2_addMark_39 : decode cX2_addMark 39 = .ok (.iload 4, 2) := by decide +kernel
theorem dX2_addMark_41 : decode cX2_addMark 41 = .ok (.iconst 1, 1) := by decide +kernel
theorem dX2_addMark_42 : decode cX2_addMark 42 = .ok (.iadd, 1) := by decide +kernel
theorem dX2_addMark_43 : decode cX2_addMark 43 = .ok (.putfield 37, 3) := by decide +kernel
theorem dX2_addMark_46 : decode cX2_addMark 46 = .ok (.iload 4, 2) := by decide +kernel
theorem dX2_addMark_48 : decode cX2_addMark 48 = .ok (.ireturn, 1) := by decide +kernel
theorem dX2_addMonk_0 : decode cX2_addMonk 0 = .ok (.aload_n 0, 1) := by decide +kernel
theorem dX2_addMonk_1 : decode cX2_addMonk 1 = .ok (.getfield 40, 3) := by decide +kernel
theorem dX2_addMonk_4 : decode cX2_addMonk 4 = .ok (.istore 4, 2) := by decide +kernel
theorem dX2_addMonk_6 : decode cX2_addMonk 6 = .ok (.aload_n 0, 1) := by decide +kernel
theorem dX2_addMonk_7 : decode cX2_addMonk 7 = .ok (.getfield 28, 3) := by decide +kernel
theorem dX2_addMonk_10 : decode cX2_addMonk 10 = .ok (.iload 4, 2) := by decide +kernel
theorem dX2_addMonk_12 : decode cX2_addMonk 12 = .ok (.iload_n 1, 1) := by decide +kernel
theorem dX2_addMonk_13 : decode cX2_addMonk 13 = .ok (.iastore, 1) := by decide +kernel
theorem dX2_addMonk_14 : decode cX2_addMonk 14 = .ok (.aload_n 0, 1) := by decide +kernel
theorem dX2_addMonk_15 : decode cX2_addMonk 15 = .ok (.getfield 31, 3) := by decide +kernel
theorem dX2_addMonk_18 : decode cX2_addMonk 18 = .ok (.iload 4, 2) := by decide +kernel
theorem dX2_addMonk_20 : decode cX2_addMonk 20 = .ok (.iload_n 2, 1) := by decide +kernel
theorem dX2_addMonk_21 : decode cX2_addMonk 21 = .ok (.iastore, 1) := by decide +kernel
theorem dX2_addMonk_22 : decode cX2_addMonk 22 = .ok (.aload_n 0, 1) := by decide +kernel
theorem dX2_addMonk_23 : decode cX2_addMonk 23 = .ok (.getfield 34, 3) := by decide +kernel
theorem dX2_addMonk_26 : decode cX2_addMonk 26 = .ok (.iload 4, 2) := by decide +kernel
theorem dX2_addMonk_28 : decode cX2_addMonk 28 = .ok (.iload_n 3, 1) := by decide +kernel
theorem dX2_addMonk_29 : decode cX2_addMonk 29 = .ok (.iastore, 1) := by decide +kernel
theorem dX2_addMonk_30 : decode cX2_addMonk 30 = .ok (.aload_n 0, 1) := by decide +kernel
theorem dX2_addMonk_31 : decode cX2_addMonk 31 = .ok (.iload 4, 2) := by decide +kernel
theorem dX2_addMonk_33 : decode cX2_addMonk 33 = .ok (.iconst 1, 1) := by decide +kernel
theorem dX2_addMonk_34 : decode cX2_addMonk 34 = .ok (.iadd, 1) := by decide +kernel
theorem dX2_addMonk_35 : decode cX2_addMonk 35 = .ok (.putfield 40, 3) := by decide +kernel
theorem dX2_addMonk_38 : decode cX2_addMonk 38 = .ok (.iload 4, 2) := by decide +kernel
theorem dX2_addMonk_40 : decode cX2_addMonk 40 = .ok (.ireturn, 1) := by decide +kernel
theorem dX2_isGone_0 : decode cX2_isGone 0 = .ok (.aload_n 0, 1) := by decide +kernel
theorem dX2_isGone_1 : decode cX2_isGone 1 = .ok (.getfield 15, 3) := by decide +kernel
theorem dX2_isGone_4 : decode cX2_isGone 4 = .ok (.iload_n 1, 1) := by decide +kernel
theorem dX2_isGone_5 : decode cX2_isGone 5 = .ok (.iaload, 1) := by decide +kernel
theorem dX2_isGone_6 : decode cX2_isGone 6 = .ok (.ifCond .ne 16, 3) := by decide +kernel
theorem dX2_isGone_9 : decode cX2_isGone 9 = .ok (.aload_n 0, 1) := by decide +kernel
theorem dX2_isGone_10 : decode cX2_isGone 10 = .ok (.getfield 22, 3) := by decide +kernel
theorem dX2_isGone_13 : decode cX2_isGone 13 = .ok (.iload_n 1, 1) := by decide +kernel
theorem dX2_isGone_14 : decode cX2_isGone 14 = .ok (.iaload, 1) := by decide +kernel
theorem dX2_isGone_15 : decode cX2_isGone 15 = .ok (.ifCond .ne 7, 3) := by decide +kernel
theorem dX2_isGone_18 : decode cX2_isGone 18 = .ok (.iconst 1, 1) := by decide +kernel
theorem dX2_isGone_19 : decode cX2_isGone 19 = .ok (.goto 4, 3) := by decide +kernel
theorem dX2_isGone_22 : decode cX2_isGone 22 = .ok (.iconst 0, 1) := by decide +kernel
theorem dX2_isGone_23 : decode cX2_isGone 23 = .ok (.ireturn, 1) := by decide +kernel
theorem dX2_isTorn_0 : decode cX2_isTorn 0 = .ok (.aload_n 0, 1) := by decide +kernel
theorem dX2_isTorn_1 : decode cX2_isTorn 1 = .ok (.getfield 25, 3) := by decide +kernel
theorem dX2_isTorn_4 : decode cX2_isTorn 4 = .ok (.iload_n 1, 1) := by decide +kernel
theorem dX2_isTorn_5 : decode cX2_isTorn 5 = .ok (.iaload, 1) := by decide +kernel
theorem dX2_isTorn_6 : decode cX2_isTorn 6 = .ok (.bipush 20, 2) := by decide +kernel
theorem dX2_isTorn_8 : decode cX2_isTorn 8 = .ok (.if_icmp .lt 7, 3) := by decide +kernel
theorem dX2_isTorn_11 : decode cX2_isTorn 11 = .ok (.iconst 1, 1) := by decide +kernel
theorem dX2_isTorn_12 : decode cX2_isTorn 12 = .ok (.goto 4, 3) := by decide +kernel
theorem dX2_isTorn_15 : decode cX2_isTorn 15 = .ok (.iconst 0, 1) := by decide +kernel
theorem dX2_isTorn_16 : decode cX2_isTorn 16 = .ok (.ireturn, 1) := by decide +kernel
set_option maxRecDepth 20000 in
theorem ggX2_isOpen_X2_isGone : GoodIn wsX2_isOpen wsX2_isGone := goodIn_r _ [5, 6, 7, 13, 14, 15, 16, 17, 18, 19, 20, 21, 22, 23, 24] (by decide +kernel) (by decide +kernel)
set_option maxRecDepth 20000 in
theorem gX2_isOpen_X2_isGone : GoodIn wsX2_isOpen (wsV RX2 55 RX2 yX2_isGone wsX2_isGone) := goodIn_app (goodIn_of _ (by decide +kernel)) ggX2_isOpen_X2_isGone
set_option maxRecDepth 20000 in
theorem ggX2_isOpen_X2_isTorn : GoodIn wsX2_isOpen wsX2_isTorn := goodIn_r _ [11, 12, 13, 14, 15, 16, 17, 18, 19, 20, 21, 22, 23, 24] (by decide +kernel) (by decide +kernel)
set_option maxRecDepth 20000 in
theorem gX2_isOpen_X2_isTorn : GoodIn wsX2_isOpen (wsV RX2 59 RX2 yX2_isTorn wsX2_isTorn) := goodIn_app (goodIn_of _ (by decide +kernel)) ggX2_isOpen_X2_isTorn
theorem dX2_isOpen_0 : decode cX2_isOpen 0 = .ok (.aload_n 0, 1) := by decide +kernel
theorem dX2_isOpen_1 : decode cX2_isOpen 1 = .ok (.iload_n 1, 1) := by decide +kernel
theorem dX2_isOpen_2 : decode cX2_isOpen 2 = .ok (.invokevirtual 55, 3) := by decide +kernel
theorem dX2_isOpen_5 : decode cX2_isOpen 5 = .ok (.ifCond .ne 15, 3) := by decide +kernel
theorem dX2_isOpen_8 : decode cX2_isOpen 8 = .ok (.aload_n 0, 1) := by decide +kernel
theorem dX2_isOpen_9 : decode cX2_isOpen 9 = .ok (.iload_n 1, 1) := by decide +kernel
theorem dX2_isOpen_10 : decode cX2_isOpen 10 = .ok (.invokevirtual 59, 3) := by decide +kernel
theorem dX2_isOpen_13 : decode cX2_isOpen 13 = .ok (.ifCond .ne 7, 3) := by decide +kernel
theorem dX2_isOpen_16 : decode cX2_isOpen 16 = .ok (.iconst 1, 1) := by decide +kernel
theorem dX2_isOpen_17 : decode cX2_isOpen 17 = .ok (.goto 4, 3) := by decide +kernel
theorem dX2_isOpen_20 : decode cX2_isOpen 20 = .ok (.iconst 0, 1) := by decide +kernel
theorem dX2_isOpen_21 : decode cX2_isOpen 21 = .ok (.ireturn, 1) := by decide +kernel
set_option maxRecDepth 20000 in
theorem ggX2_canRub_X2_isOpen : GoodIn wsX2_canRub wsX2_isOpen := goodIn_r _ [6, 7, 8, 9, 5, 10, 11, 12, 13, 14, 15, 16, 17, 18, 19, 20, 21, 22, 23, 24, 25, 26, 27, 28, 29] (by decide +kernel) (by decide +kernel)
set_option maxRecDepth 20000 in
theorem gX2_canRub_X2_isOpen : GoodIn wsX2_canRub (wsV RX2 62 RX2 yX2_isOpen wsX2_isOpen) := goodIn_app (goodIn_of _ (by decide +kernel)) ggX2_canRub_X2_isOpen
theorem dX2_canRub_0 : decode cX2_canRub 0 = .ok (.aload_n 0, 1) := by decide +kernel
theorem dX2_canRub_1 : decode cX2_canRub 1 = .ok (.getfield 31, 3) := by decide +kernel
theorem dX2_canRub_4 : decode cX2_canRub 4 = .ok (.iload_n 1, 1) := by decide +kernel
theorem dX2_canRub_5 : decode cX2_canRub 5 = .ok (.iaload, 1) := by decide +kernel
theorem dX2_canRub_6 : decode cX2_canRub 6 = .ok (.ifCond .le 15, 3) := by decide +kernel
theorem dX2_canRub_9 : decode cX2_canRub 9 = .ok (.aload_n 0, 1) := by decide +kernel
theorem dX2_canRub_10 : decode cX2_canRub 10 = .ok (.iload_n 2, 1) := by decide +kernel
theorem dX2_canRub_11 : decode cX2_canRub 11 = .ok (.invokevirtual 62, 3) := by decide +kernel
theorem dX2_canRub_14 : decode cX2_canRub 14 = .ok (.ifCond .eq 7, 3) := by decide +kernel
theorem dX2_canRub_17 : decode cX2_canRub 17 = .ok (.iconst 1, 1) := by decide +kernel
theorem dX2_canRub_18 : decode cX2_canRub 18 = .ok (.goto 4, 3) := by decide +kernel
theorem dX2_canRub_21 : decode cX2_canRub 21 = .ok (.iconst 0, 1) := by decide +kernel
theorem dX2_canRub_22 : decode cX2_canRub 22 = .ok (.ireturn, 1) := by decide +kernel
set_option maxRecDepth 20000 in
theorem ggX2_rubOnce_X2_paleness : GoodIn wsX2_rubOnce wsX2_paleness := goodIn_r _ [18] (by decide +kernel) (by decide +kernel)
set_option maxRecDepth 20000 in
theorem gX2_rubOnce_X2_paleness : GoodIn wsX2_rubOnce (va_wsS RX2 65 yX2_paleness wsX2_paleness) := goodIn_app (goodIn_of _ (by decide +kernel)) ggX2_rubOnce_X2_paleness
set_option maxRecDepth 20000 in
theorem ggX2_rubOnce_X2_wear : GoodIn wsX2_rubOnce wsX2_wear := goodIn_r _ [21] (by decide +kernel) (by decide +kernel)
set_option maxRecDepth 20000 in
theorem gX2_rubOnce_X2_wear : GoodIn wsX2_rubOnce (va_wsS RX2 74 yX2_wear wsX2_wear) := goodIn_app (goodIn_of _ (by decide +kernel)) ggX2_rubOnce_X2_wear
set_option maxRecDepth 20000 in
theorem ggX2_rubOnce_X2_woolOf : GoodIn wsX2_rubOnce wsX2_woolOf := goodIn_r _ [24] (by decide +kernel) (by decide +kernel)
set_option maxRecDepth 20000 in
theorem gX2_rubOnce_X2_woolOf : GoodIn wsX2_rubOnce (va_wsS RX2 77 yX2_woolOf wsX2_woolOf) := goodIn_app (goodIn_of _ (by decide +kernel)) ggX2_rubOnce_X2_woolOf
set_option maxRecDepth 20000 in
theorem ggX2_rubOnce_X2_isTorn : GoodIn wsX2_rubOnce wsX2_isTorn := goodIn_r _ [28, 9, 29, 30, 31, 32, 33, 34, 35, 36, 37, 38, 39, 40] (by decide +kernel) (by decide +kernel)
set_option maxRecDepth 20000 in
theorem gX2_rubOnce_X2_isTorn : GoodIn wsX2_rubOnce (wsV RX2 59 RX2 yX2_isTorn wsX2_isTorn) := goodIn_app (goodIn_of _ (by decide +kernel)) ggX2_rubOnce_X2_isTorn
theorem dX2_rubOnce_0 : decode cX2_rubOnce 0 = .ok (.aload_n 0, 1) := by decide +kernel
theorem dX2_rubOnce_1 : decode cX2_rubOnce 1 = .ok (.getfield 31, 3) := by decide +kernel
theorem dX2_rubOnce_4 : decode cX2_rubOnce 4 = .ok (.iload_n 1, 1) := by decide +kernel
theorem dX2_rubOnce_5 : decode cX2_rubOnce 5 = .ok (.iaload, 1) := by decide +kernel
theorem dX2_rubOnce_6 : decode cX2_rubOnce 6 = .ok (.istore_n 3, 1) := by decide +kernel
theorem dX2_rubOnce_7 : decode cX2_rubOnce 7 = .ok (.aload_n 0, 1) := by decide +kernel
theorem dX2_rubOnce_8 : decode cX2_rubOnce 8 = .ok (.getfield 15, 3) := by decide +kernel
theorem dX2_rubOnce_11 : decode cX2_rubOnce 11 = .ok (.iload_n 2, 1) := by decide +kernel
theorem dX2_rubOnce_12 : decode cX2_rubOnce 12 = .ok (.iconst 0, 1) := by decide +kernel
theorem dX2_rubOnce_13 : decode cX2_rubOnce 13 = .ok (.aload_n 0, 1) := by decide +kernel
theorem dX2_rubOnce_14 : decode cX2_rubOnce 14 = .ok (.getfield 15, 3) := by decide +kernel
theorem dX2_rubOnce_17 : decode cX2_rubOnce 17 = .ok (.iload_n 2, 1) := by decide +kernel
theorem dX2_rubOnce_18 : decode cX2_rubOnce 18 = .ok (.iaload, 1) := by decide +kernel
theorem dX2_rubOnce_19 : decode cX2_rubOnce 19 = .ok (.aload_n 0, 1) := by decide +kernel
theorem dX2_rubOnce_20 : decode cX2_rubOnce 20 = .ok (.getfield 28, 3) := by decide +kernel
theorem dX2_rubOnce_23 : decode cX2_rubOnce 23 = .ok (.iload_n 1, 1) := by decide +kernel
theorem dX2_rubOnce_24 : decode cX2_rubOnce 24 = .ok (.iaload, 1) := by decide +kernel
theorem dX2_rubOnce_25 : decode cX2_rubOnce 25 = .ok (.iload_n 3, 1) := by decide +kernel
theorem dX2_rubOnce_26 : decode cX2_rubOnce 26 = .ok (.invokestatic 65, 3) := by decide +kernel
theorem dX2_rubOnce_29 : decode cX2_rubOnce 29 = .ok (.isub, 1) := by decide +kernel
theorem dX2_rubOnce_30 : decode cX2_rubOnce 30 = .ok (.invokestatic 69, 3) := by decide +kernel
theorem dX2_rubOnce_33 : decode cX2_rubOnce 33 = .ok (.iastore, 1) := by decide +kernel
theorem dX2_rubOnce_34 : decode cX2_rubOnce 34 = .ok (.aload_n 0, 1) := by decide +kernel
theorem dX2_rubOnce_35 : decode cX2_rubOnce 35 = .ok (.getfield 31, 3) := by decide +kernel
theorem dX2_rubOnce_38 : decode cX2_rubOnce 38 = .ok (.iload_n 1, 1) := by decide +kernel
theorem dX2_rubOnce_39 : decode cX2_rubOnce 39 = .ok (.iconst 0, 1) := by decide +kernel
theorem dX2_rubOnce_40 : decode cX2_rubOnce 40 = .ok (.iload_n 3, 1) := by decide +kernel
theorem dX2_rubOnce_41 : decode cX2_rubOnce 41 = .ok (.aload_n 0, 1) := by decide +kernel
theorem dX2_rubOnce_42 : decode cX2_rubOnce 42 = .ok (.getfield 28, 3) := by decide +kernel
theorem dX2_rubOnce_45 : decode cX2_rubOnce 45 = .ok (.iload_n 1, 1) := by decide +kernel
theorem dX2_rubOnce_46 : decode cX2_rubOnce 46 = .ok (.iaload, 1) := by decide +kernel
theorem dX2_rubOnce_47 : decode cX2_rubOnce 47 = .ok (.aload_n 0, 1) := by decide +kernel
theorem dX2_rubOnce_48 : decode cX2_rubOnce 48 = .ok (.getfield 19, 3) := by decide +kernel
theorem dX2_rubOnce_51 : decode cX2_rubOnce 51 = .ok (.iload_n 2, 1) := by decide +kernel
theorem dX2_rubOnce_52 : decode cX2_rubOnce 52 = .ok (.iaload, 1) := by decide +kernel
theorem dX2_rubOnce_53 : decode cX2_rubOnce 53 = .ok (.invokestatic 74, 3) := by decide +kernel
theorem dX2_rubOnce_56 : decode cX2_rubOnce 56 = .ok (.isub, 1) := by decide +kernel
theorem dX2_rubOnce_57 : decode cX2_rubOnce 57 = .ok (.invokestatic 69, 3) := by decide +kernel
theorem dX2_rubOnce_60 : decode cX2_rubOnce 60 = .ok (.iastore, 1) := by decide +kernel
theorem dX2_rubOnce_61 : decode cX2_rubOnce 61 = .ok (.aload_n 0, 1) := by decide +kernel
theorem dX2_rubOnce_62 : decode cX2_rubOnce 62 = .ok (.getfield 25, 3) := by decide +kernel
theorem dX2_rubOnce_65 : decode cX2_rubOnce 65 = .ok (.iload_n 2, 1) := by decide +kernel
theorem dX2_rubOnce_66 : decode cX2_rubOnce 66 = .ok (.bipush 20, 2) := by decide +kernel
theorem dX2_rubOnce_68 : decode cX2_rubOnce 68 = .ok (.aload_n 0, 1) := by decide +kernel
theorem dX2_rubOnce_69 : decode cX2_rubOnce 69 = .ok (.getfield 25, 3) := by decide +kernel
theorem dX2_rubOnce_72 : decode cX2_rubOnce 72 = .ok (.iload_n 2, 1) := by decide +kernel
theorem dX2_rubOnce_73 : decode cX2_rubOnce 73 = .ok (.iaload, 1) := by decide +kernel
theorem dX2_rubOnce_74 : decode cX2_rubOnce 74 = .ok (.aload_n 0, 1) := by decide +kernel
theorem dX2_rubOnce_75 : decode cX2_rubOnce 75 = .ok (.getfield 28, 3) := by decide +kernel
theorem dX2_rubOnce_78 : decode cX2_rubOnce 78 = .ok (.iload_n 1, 1) := by decide +kernel
theorem dX2_rubOnce_79 : decode cX2_rubOnce 79 = .ok (.iaload, 1) := by decide +kernel
theorem dX2_rubOnce_80 : decode cX2_rubOnce 80 = .ok (.invokestatic 77, 3) := by decide +kernel
theorem dX2_rubOnce_83 : decode cX2_rubOnce 83 = .ok (.iadd, 1) := by decide +kernel
theorem dX2_rubOnce_84 : decode cX2_rubOnce 84 = .ok (.invokestatic 81, 3) := by decide +kernel
theorem dX2_rubOnce_87 : decode cX2_rubOnce 87 = .ok (.iastore, 1) := by decide +kernel
theorem dX2_rubOnce_88 : decode cX2_rubOnce 88 = .ok (.aload_n 0, 1) := by decide +kernel
theorem dX2_rubOnce_89 : decode cX2_rubOnce 89 = .ok (.dup, 1) := by decide +kernel
theorem dX2_rubOnce_90 : decode cX2_rubOnce 90 = .ok (.getfield 46, 3) := by decide +kernel
theorem dX2_rubOnce_93 : decode cX2_rubOnce 93 = .ok (.iload_n 3, 1) := by decide +kernel
theorem dX2_rubOnce_94 : decode cX2_rubOnce 94 = .ok (.aload_n 0, 1) := by decide +kernel
theorem dX2_rubOnce_95 : decode cX2_rubOnce 95 = .ok (.getfield 31, 3) := by decide +kernel
theorem dX2_rubOnce_98 : decode cX2_rubOnce 98 = .ok (.iload_n 1, 1) := by decide +kernel
theorem dX2_rubOnce_99 : decode cX2_rubOnce 99 = .ok (.iaload, 1) := by decide +kernel
theorem dX2_rubOnce_100 : decode cX2_rubOnce 100 = .ok (.isub, 1) := by decide +kernel
theorem dX2_rubOnce_101 : decode cX2_rubOnce 101 = .ok (.iadd, 1) := by decide +kernel
theorem dX2_rubOnce_102 : decode cX2_rubOnce 102 = .ok (.putfield 46, 3) := by decide +kernel
theorem dX2_rubOnce_105 : decode cX2_rubOnce 105 = .ok (.aload_n 0, 1) := by decide +kernel
theorem dX2_rubOnce_106 : decode cX2_rubOnce 106 = .ok (.getfield 15, 3) := by decide +kernel
theorem dX2_rubOnce_109 : decode cX2_rubOnce 109 = .ok (.iload_n 2, 1) := by decide +kernel
theorem dX2_rubOnce_110 : decode cX2_rubOnce 110 = .ok (.iaload, 1) := by decide +kernel
theorem dX2_rubOnce_111 : decode cX2_rubOnce 111 = .ok (.ifCond .ne 30, 3) := by decide +kernel
theorem dX2_rubOnce_114 : decode cX2_rubOnce 114 = .ok (.aload_n 0, 1) := by decide +kernel
theorem dX2_rubOnce_115 : decode cX2_rubOnce 115 = .ok (.iload_n 2, 1) := by decide +kernel
theorem dX2_rubOnce_116 : decode cX2_rubOnce 116 = .ok (.invokevirtual 59, 3) := by decide +kernel
theorem dX2_rubOnce_119 : decode cX2_rubOnce 119 = .ok (.ifCond .ne 22, 3) := by decide +kernel
theorem dX2_rubOnce_122 : decode cX2_rubOnce 122 = .ok (.aload_n 0, 1) := by decide +kernel
theorem dX2_rubOnce_123 : decode cX2_rubOnce 123 = .ok (.getfield 15, 3) := by decide +kernel
theorem dX2_rubOnce_126 : decode cX2_rubOnce 126 = .ok (.iload_n 2, 1) := by decide +kernel
theorem dX2_rubOnce_127 : decode cX2_rubOnce 127 = .ok (.aload_n 0, 1) := by decide +kernel
theorem dX2_rubOnce_128 : decode cX2_rubOnce 128 = .ok (.getfield 22, 3) := by decide +kernel
theorem dX2_rubOnce_131 : decode cX2_rubOnce 131 = .ok (.iload_n 2, 1) := by decide +kernel
theorem dX2_rubOnce_132 : decode cX2_rubOnce 132 = .ok (.iaload, 1) := by decide +kernel
theorem dX2_rubOnce_133 : decode cX2_rubOnce 133 = .ok (.iastore, 1) := by decide +kernel
theorem dX2_rubOnce_134 : decode cX2_rubOnce 134 = .ok (.aload_n 0, 1) := by decide +kernel
theorem dX2_rubOnce_135 : decode cX2_rubOnce 135 = .ok (.getfield 22, 3) := by decide +kernel
theorem dX2_rubOnce_138 : decode cX2_rubOnce 138 = .ok (.iload_n 2, 1) := by decide +kernel
theorem dX2_rubOnce_139 : decode cX2_rubOnce 139 = .ok (.iconst 0, 1) := by decide +kernel
theorem dX2_rubOnce_140 : decode cX2_rubOnce 140 = .ok (.iastore, 1) := by decide +kernel
theorem dX2_rubOnce_141 : decode cX2_rubOnce 141 = .ok (.return_, 1) := by decide +kernel
theorem dX2_paleness_0 : decode cX2_paleness 0 = .ok (.iload_n 0, 1) := by decide +kernel
theorem dX2_paleness_1 : decode cX2_paleness 1 = .ok (.tableswitch 47 1 4 #[31, 44, 31, 44], 31) := by decide +kernel
theorem dX2_paleness_32 : decode cX2_paleness 32 = .ok (.iload_n 1, 1) := by decide +kernel
theorem dX2_paleness_33 : decode cX2_paleness 33 = .ok (.bipush 30, 2) := by decide +kernel
theorem dX2_paleness_35 : decode cX2_paleness 35 = .ok (.if_icmp .lt 8, 3) := by decide +kernel
theorem dX2_paleness_38 : decode cX2_paleness 38 = .ok (.bipush 6, 2) := by decide +kernel
theorem dX2_paleness_40 : decode cX2_paleness 40 = .ok (.goto 4, 3) := by decide +kernel
theorem dX2_paleness_43 : decode cX2_paleness 43 = .ok (.iconst 4, 1) := by decide +kernel
theorem dX2_paleness_44 : decode cX2_paleness 44 = .ok (.ireturn, 1) := by decide +kernel
theorem dX2_paleness_45 : decode cX2_paleness 45 = .ok (.bipush 8, 2) := by decide +kernel
theorem dX2_paleness_47 : decode cX2_paleness 47 = .ok (.ireturn, 1) := by decide +kernel
theorem dX2_paleness_48 : decode cX2_paleness 48 = .ok (.iconst 4, 1) := by decide +kernel
theorem dX2_paleness_49 : decode cX2_paleness 49 = .ok (.ireturn, 1) := by decide +kernel
theorem dX2_wear_0 : decode cX2_wear 0 = .ok (.iload_n 0, 1) := by decide +kernel
theorem dX2_wear_1 : decode cX2_wear 1 = .ok (.lookupswitch 35 #[(3, 27), (4, 33)], 27) := by decide +kernel
theorem dX2_wear_28 : decode cX2_wear 28 = .ok (.iload_n 1, 1) := by decide +kernel
theorem dX2_wear_29 : decode cX2_wear 29 = .ok (.iconst 2, 1) := by decide +kernel
theorem dX2_wear_30 : decode cX2_wear 30 = .ok (.idiv, 1) := by decide +kernel
theorem dX2_wear_31 : decode cX2_wear 31 = .ok (.iconst 1, 1) := by decide +kernel
theorem dX2_wear_32 : decode cX2_wear 32 = .ok (.iadd, 1) := by decide +kernel
theorem dX2_wear_33 : decode cX2_wear 33 = .ok (.ireturn, 1) := by decide +kernel
theorem dX2_wear_34 : decode cX2_wear 34 = .ok (.iconst 1, 1) := by decide +kernel
theorem dX2_wear_35 : decode cX2_wear 35 = .ok (.ireturn, 1) := by decide +kernel
theorem dX2_wear_36 : decode cX2_wear 36 = .ok (.iload_n 1, 1) := by decide +kernel
theorem dX2_wear_37 : decode cX2_wear 37 = .ok (.ireturn, 1) := by decide +kernel
theorem dX2_woolOf_0 : decode cX2_woolOf 0 = .ok (.iload_n 0, 1) := by decide +kernel
theorem dX2_woolOf_1 : decode cX2_woolOf 1 = .ok (.lookupswitch 31 #[(2, 27), (4, 29)], 27) := by decide +kernel
theorem dX2_woolOf_28 : decode cX2_woolOf 28 = .ok (.iconst 3, 1) := by decide +kernel
theorem dX2_woolOf_29 : decode cX2_woolOf 29 = .ok (.ireturn, 1) := by decide +kernel
theorem dX2_woolOf_30 : decode cX2_woolOf 30 = .ok (.iconst 2, 1) := by decide +kernel
theorem dX2_woolOf_31 : decode cX2_woolOf 31 = .ok (.ireturn, 1) := by decide +kernel
theorem dX2_woolOf_32 : decode cX2_woolOf 32 = .ok (.iconst 1, 1) := by decide +kernel
theorem dX2_woolOf_33 : decode cX2_woolOf 33 = .ok (.ireturn, 1) := by decide +kernel
set_option maxRecDepth 20000 in
theorem ggX2_rubTimes_X2_canRub : GoodIn wsX2_rubTimes wsX2_canRub := goodIn_r _ [5, 6, 7, 8, 9, 4, 10, 11, 12, 13, 14, 15, 16, 17, 18, 19, 20, 21, 45, 46, 47, 48, 49, 50, 51, 52, 53, 54, 55, 56] (by decide +kernel) (by decide +kernel)
set_option maxRecDepth 20000 in
theorem gX2_rubTimes_X2_canRub : GoodIn wsX2_rubTimes (wsV RX2 84 RX2 yX2_canRub wsX2_canRub) := goodIn_app (goodIn_of _ (by decide +kernel)) ggX2_rubTimes_X2_canRub
set_option maxRecDepth 20000 in
theorem ggX2_rubTimes_X2_rubOnce : GoodIn wsX2_rubTimes wsX2_rubOnce := goodIn_r _ [25, 6, 15, 26, 27, 28, 29, 30, 31, 21, 32, 33, 34, 35, 16, 36, 37, 4, 38, 39, 40, 41, 42, 43, 44, 17, 18, 19, 20, 45, 46, 47, 48, 49, 50, 51, 52, 53, 54, 55, 56] (by decide +kernel) (by decide +kernel)
set_option maxRecDepth 20000 in
theorem gX2_rubTimes_X2_rubOnce : GoodIn wsX2_rubTimes (wsV RX2 88 RX2 yX2_rubOnce wsX2_rubOnce) := goodIn_app (goodIn_of _ (by decide +kernel)) ggX2_rubTimes_X2_rubOnce
theorem dX2_rubTimes_0 : decode cX2_rubTimes 0 = .ok (.iconst 0, 1) := by decide +kernel
theorem dX2_rubTimes_1 : decode cX2_rubTimes 1 = .ok (.istore 4, 2) := by decide +kernel
theorem dX2_rubTimes_3 : decode cX2_rubTimes 3 = .ok (.iload 4, 2) := by decide +kernel
theorem dX2_rubTimes_5 : decode cX2_rubTimes 5 = .ok (.iload_n 3, 1) := by decide +kernel
theorem dX2_rubTimes_6 : decode cX2_rubTimes 6 = .ok (.if_icmp .ge 24, 3) := by decide +kernel
theorem dX2_rubTimes_9 : decode cX2_rubTimes 9 = .ok (.aload_n 0, 1) := by decide +kernel
theorem dX2_rubTimes_10 : decode cX2_rubTimes 10 = .ok (.iload_n 1, 1) := by decide +kernel
theorem dX2_rubTimes_11 : decode cX2_rubTimes 11 = .ok (.iload_n 2, 1) := by decide +kernel
theorem dX2_rubTimes_12 : decode cX2_rubTimes 12 = .ok (.invokevirtual 84, 3) := by decide +kernel
theorem dX2_rubTimes_15 : decode cX2_rubTimes 15 = .ok (.ifCond .eq 15, 3) := by decide +kernel
theorem dX2_rubTimes_18 : decode cX2_rubTimes 18 = .ok (.aload_n 0, 1) := by decide +kernel
theorem dX2_rubTimes_19 : decode cX2_rubTimes 19 = .ok (.iload_n 1, 1) := by decide +kernel
theorem dX2_rubTimes_20 : decode cX2_rubTimes 20 = .ok (.iload_n 2, 1) := by decide +kernel
theorem dX2_rubTimes_21 : decode cX2_rubTimes 21 = .ok (.invokevirtual 88, 3) := by decide +kernel
theorem dX2_rubTimes_24 : decode cX2_rubTimes 24 = .ok (.iinc 4 1, 3) := by decide +kernel
theorem dX2_rubTimes_27 : decode cX2_rubTimes 27 = .ok (.goto (-24), 3) := by decide +kernel
theorem dX2_rubTimes_30 : decode cX2_rubTimes 30 = .ok (.iload 4, 2) := by decide +kernel
theorem dX2_rubTimes_32 : decode cX2_rubTimes 32 = .ok (.ireturn, 1) := by decide +kernel
set_option maxRecDepth 20000 in
theorem ggX2_passDay_X2_canRub : GoodIn wsX2_passDay wsX2_canRub := goodIn_r _ [8, 9, 10, 11, 12, 7, 13, 14, 15, 16, 17, 18, 19, 20, 21, 22, 23, 24, 48, 49, 50, 51, 52, 53, 54, 55, 56, 57, 58, 59] (by decide +kernel) (by decide +kernel)
set_option maxRecDepth 20000 in
theorem gX2_passDay_X2_canRub : GoodIn wsX2_passDay (wsV RX2 84 RX2 yX2_canRub wsX2_canRub) := goodIn_app (goodIn_of _ (by decide +kernel)) ggX2_passDay_X2_canRub
set_option maxRecDepth 20000 in
theorem ggX2_passDay_X2_rubOnce : GoodIn wsX2_passDay wsX2_rubOnce := goodIn_r _ [28, 9, 18, 29, 30, 31, 32, 33, 34, 24, 35, 36, 37, 38, 19, 39, 40, 7, 41, 42, 43, 44, 45, 46, 47, 20, 21, 22, 23, 48, 49, 50, 51, 52, 53, 54, 55, 56, 57, 58, 59] (by decide +kernel) (by decide +kernel)
set_option maxRecDepth 20000 in
theorem gX2_passDay_X2_rubOnce : GoodIn wsX2_passDay (wsV RX2 88 RX2 yX2_rubOnce wsX2_rubOnce) := goodIn_app (goodIn_of _ (by decide +kernel)) ggX2_passDay_X2_rubOnce
theorem dX2_passDay_0 : decode cX2_passDay 0 = .ok (.iconst 0, 1) := by decide +kernel
theorem dX2_passDay_1 : decode cX2_passDay 1 = .ok (.istore_n 2, 1) := by decide +kernel
theorem dX2_passDay_2 : decode cX2_passDay 2 = .ok (.iload_n 2, 1) := by decide +kernel
theorem dX2_passDay_3 : decode cX2_passDay 3 = .ok (.aload_n 0, 1) := by decide +kernel
theorem dX2_passDay_4 : decode cX2_passDay 4 = .ok (.getfield 40, 3) := by decide +kernel
theorem dX2_passDay_7 : decode cX2_passDay 7 = .ok (.if_icmp .ge 61, 3) := by decide +kernel
theorem dX2_passDay_10 : decode cX2_passDay 10 = .ok (.iload_n 1, 1) := by decide +kernel
theorem dX2_passDay_11 : decode cX2_passDay 11 = .ok (.iload_n 2, 1) := by decide +kernel
theorem dX2_passDay_12 : decode cX2_passDay 12 = .ok (.ishr, 1) := by decide +kernel
theorem dX2_passDay_13 : decode cX2_passDay 13 = .ok (.iconst 1, 1) := by decide +kernel
theorem dX2_passDay_14 : decode cX2_passDay 14 = .ok (.iand, 1) := by decide +kernel
theorem dX2_passDay_15 : decode cX2_passDay 15 = .ok (.ifCond .ne 7, 3) := by decide +kernel
theorem dX2_passDay_18 : decode cX2_passDay 18 = .ok (.iconst 1, 1) := by decide +kernel
theorem dX2_passDay_19 : decode cX2_passDay 19 = .ok (.goto 4, 3) := by decide +kernel
theorem dX2_passDay_22 : decode cX2_passDay 22 = .ok (.iconst 0, 1) := by decide +kernel
theorem dX2_passDay_23 : decode cX2_passDay 23 = .ok (.istore_n 3, 1) := by decide +kernel
theorem dX2_passDay_24 : decode cX2_passDay 24 = .ok (.iload_n 3, 1) := by decide +kernel
theorem dX2_passDay_25 : decode cX2_passDay 25 = .ok (.ifCond .eq 37, 3) := by decide +kernel
theorem dX2_passDay_28 : decode cX2_passDay 28 = .ok (.aload_n 0, 1) := by decide +kernel
theorem dX2_passDay_29 : decode cX2_passDay 29 = .ok (.getfield 34, 3) := by decide +kernel
theorem dX2_passDay_32 : decode cX2_passDay 32 = .ok (.iload_n 2, 1) := by decide +kernel
theorem dX2_passDay_33 : decode cX2_passDay 33 = .ok (.iaload, 1) := by decide +kernel
theorem dX2_passDay_34 : decode cX2_passDay 34 = .ok (.ifCond .lt 28, 3) := by decide +kernel
theorem dX2_passDay_37 : decode cX2_passDay 37 = .ok (.aload_n 0, 1) := by decide +kernel
theorem dX2_passDay_38 : decode cX2_passDay 38 = .ok (.iload_n 2, 1) := by decide +kernel
theorem dX2_passDay_39 : decode cX2_passDay 39 = .ok (.aload_n 0, 1) := by decide +kernel
theorem dX2_passDay_40 : decode cX2_passDay 40 = .ok (.getfield 34, 3) := by decide +kernel
theorem dX2_passDay_43 : decode cX2_passDay 43 = .ok (.iload_n 2, 1) := by decide +kernel
theorem dX2_passDay_44 : decode cX2_passDay 44 = .ok (.iaload, 1) := by decide +kernel
theorem dX2_passDay_45 : decode cX2_passDay 45 = .ok (.invokevirtual 84, 3) := by decide +kernel
theorem dX2_passDay_48 : decode cX2_passDay 48 = .ok (.ifCond .eq 14, 3) := by decide +kernel
theorem dX2_passDay_51 : decode cX2_passDay 51 = .ok (.aload_n 0, 1) := by decide +kernel
theorem dX2_passDay_52 : decode cX2_passDay 52 = .ok (.iload_n 2, 1) := by decide +kernel
theorem dX2_passDay_53 : decode cX2_passDay 53 = .ok (.aload_n 0, 1) := by decide +kernel
theorem dX2_passDay_54 : decode cX2_passDay 54 = .ok (.getfield 34, 3) := by decide +kernel
theorem dX2_passDay_57 : decode cX2_passDay 57 = .ok (.iload_n 2, 1) := by decide +kernel
theorem dX2_passDay_58 : decode cX2_passDay 58 = .ok (.iaload, 1) := by decide +kernel
theorem dX2_passDay_59 : decode cX2_passDay 59 = .ok (.invokevirtual 88, 3) := by decide +kernel
theorem dX2_passDay_62 : decode cX2_passDay 62 = .ok (.iinc 2 1, 3) := by decide +kernel
theorem dX2_passDay_65 : decode cX2_passDay 65 = .ok (.goto (-63), 3) := by decide +kernel
theorem dX2_passDay_68 : decode cX2_passDay 68 = .ok (.aload_n 0, 1) := by decide +kernel
theorem dX2_passDay_69 : decode cX2_passDay 69 = .ok (.dup, 1) := by decide +kernel
theorem dX2_passDay_70 : decode cX2_passDay 70 = .ok (.getfield 43, 3) := by decide +kernel
theorem dX2_passDay_73 : decode cX2_passDay 73 = .ok (.iconst 1, 1) := by decide +kernel
theorem dX2_passDay_74 : decode cX2_passDay 74 = .ok (.iadd, 1) := by decide +kernel
theorem dX2_passDay_75 : decode cX2_passDay 75 = .ok (.putfield 43, 3) := by decide +kernel
theorem dX2_passDay_78 : decode cX2_passDay 78 = .ok (.return_, 1) := by decide +kernel
set_option maxRecDepth 20000 in
theorem ggX2_crewRubs_X2_canRub : GoodIn wsX2_crewRubs wsX2_canRub := goodIn_r _ [6, 7, 8, 9, 10, 5, 11, 12, 13, 14, 15, 16, 17, 18, 19, 20, 21, 22, 46, 47, 48, 49, 50, 51, 52, 53, 54, 55, 56, 57] (by decide +kernel) (by decide +kernel)
set_option maxRecDepth 20000 in
theorem gX2_crewRubs_X2_canRub : GoodIn wsX2_crewRubs (wsV RX2 84 RX2 yX2_canRub wsX2_canRub) := goodIn_app (goodIn_of _ (by decide +kernel)) ggX2_crewRubs_X2_canRub
set_option maxRecDepth 20000 in
theorem ggX2_crewRubs_X2_rubOnce : GoodIn wsX2_crewRubs wsX2_rubOnce := goodIn_r _ [26, 7, 16, 27, 28, 29, 30, 31, 32, 22, 33, 34, 35, 36, 17, 37, 38, 5, 39, 40, 41, 42, 43, 44, 45, 18, 19, 20, 21, 46, 47, 48, 49, 50, 51, 52, 53, 54, 55, 56, 57] (by decide +kernel) (by decide +kernel)
set_option maxRecDepth 20000 in
theorem gX2_crewRubs_X2_rubOnce : GoodIn wsX2_crewRubs (wsV RX2 88 RX2 yX2_rubOnce wsX2_rubOnce) := goodIn_app (goodIn_of _ (by decide +kernel)) ggX2_crewRubs_X2_rubOnce
theorem dX2_crewRubs_0 : decode cX2_crewRubs 0 = .ok (.iconst 0, 1) := by decide +kernel
theorem dX2_crewRubs_1 : decode cX2_crewRubs 1 = .ok (.istore_n 3, 1) := by decide +kernel
theorem dX2_crewRubs_2 : decode cX2_crewRubs 2 = .ok (.iconst 0, 1) := by decide +kernel
theorem dX2_crewRubs_3 : decode cX2_crewRubs 3 = .ok (.istore 4, 2) := by decide +kernel
theorem dX2_crewRubs_5 : decode cX2_crewRubs 5 = .ok (.iload 4, 2) := by decide +kernel
theorem dX2_crewRubs_7 : decode cX2_crewRubs 7 = .ok (.aload_n 0, 1) := by decide +kernel
theorem dX2_crewRubs_8 : decode cX2_crewRubs 8 = .ok (.getfield 40, 3) := by decide +kernel
theorem dX2_crewRubs_11 : decode cX2_crewRubs 11 = .ok (.if_icmp .ge 37, 3) := by decide +kernel
theorem dX2_crewRubs_14 : decode cX2_crewRubs 14 = .ok (.iload_n 1, 1) := by decide +kernel
theorem dX2_crewRubs_15 : decode cX2_crewRubs 15 = .ok (.iload 4, 2) := by decide +kernel
theorem dX2_crewRubs_17 : decode cX2_crewRubs 17 = .ok (.ishr, 1) := by decide +kernel
theorem dX2_crewRubs_18 : decode cX2_crewRubs 18 = .ok (.iconst 1, 1) := by decide +kernel
theorem dX2_crewRubs_19 : decode cX2_crewRubs 19 = .ok (.iand, 1) := by decide +kernel
theorem dX2_crewRubs_20 : decode cX2_crewRubs 20 = .ok (.ifCond .eq 22, 3) := by decide +kernel
theorem dX2_crewRubs_23 : decode cX2_crewRubs 23 = .ok (.aload_n 0, 1) := by decide +kernel
theorem dX2_crewRubs_24 : decode cX2_crewRubs 24 = .ok (.iload 4, 2) := by decide +kernel
theorem dX2_crewRubs_26 : decode cX2_crewRubs 26 = .ok (.iload_n 2, 1) := by decide +kernel
theorem dX2_crewRubs_27 : decode cX2_crewRubs 27 = .ok (.invokevirtual 84, 3) := by decide +kernel
theorem dX2_crewRubs_30 : decode cX2_crewRubs 30 = .ok (.ifCond .eq 12, 3) := by decide +kernel
theorem dX2_crewRubs_33 : decode cX2_crewRubs 33 = .ok (.aload_n 0, 1) := by decide +kernel
theorem dX2_crewRubs_34 : decode cX2_crewRubs 34 = .ok (.iload 4, 2) := by decide +kernel
theorem dX2_crewRubs_36 : decode cX2_crewRubs 36 = .ok (.iload_n 2, 1) := by decide +kernel
theorem dX2_crewRubs_37 : decode cX2_crewRubs 37 = .ok (.invokevirtual 88, 3) := by decide +kernel
theorem dX2_crewRubs_40 : decode cX2_crewRubs 40 = .ok (.iconst 1, 1) := by decide +kernel
theorem dX2_crewRubs_41 : decode cX2_crewRubs 41 = .ok (.istore_n 3, 1) := by decide +kernel
theorem dX2_crewRubs_42 : decode cX2_crewRubs 42 = .ok (.iinc 4 1, 3) := by decide +kernel
theorem dX2_crewRubs_45 : decode cX2_crewRubs 45 = .ok (.goto (-40), 3) := by decide +kernel
theorem dX2_crewRubs_48 : decode cX2_crewRubs 48 = .ok (.iload_n 3, 1) := by decide +kernel
theorem dX2_crewRubs_49 : decode cX2_crewRubs 49 = .ok (.ireturn, 1) := by decide +kernel
theorem dX2_drawAndSend_0 : decode cX2_drawAndSend 0 = .ok (.aload_n 0, 1) := by decide +kernel
theorem dX2_drawAndSend_1 : decode cX2_drawAndSend 1 = .ok (.aload_n 0, 1) := by decide +kernel
theorem dX2_drawAndSend_2 : decode cX2_drawAndSend 2 = .ok (.getfield 9, 3) := by decide +kernel
theorem dX2_drawAndSend_5 : decode cX2_drawAndSend 5 = .ok (.ldc 92, 2) := by decide +kernel
theorem dX2_drawAndSend_7 : decode cX2_drawAndSend 7 = .ok (.imul, 1) := by decide +kernel
theorem dX2_drawAndSend_8 : decode cX2_drawAndSend 8 = .ok (.sipush 12345, 3) := by decide +kernel
theorem dX2_drawAndSend_11 : decode cX2_drawAndSend 11 = .ok (.iadd, 1) := by decide +kernel
theorem dX2_drawAndSend_12 : decode cX2_drawAndSend 12 = .ok (.ldc 93, 2) := by decide +kernel
theorem dX2_drawAndSend_14 : decode cX2_drawAndSend 14 = .ok (.iand, 1) := by decide +kernel
theorem dX2_drawAndSend_15 : decode cX2_drawAndSend 15 = .ok (.putfield 9, 3) := by decide +kernel
theorem dX2_drawAndSend_18 : decode cX2_drawAndSend 18 = .ok (.aload_n 0, 1) := by decide +kernel
theorem dX2_drawAndSend_19 : decode cX2_drawAndSend 19 = .ok (.getfield 40, 3) := by decide +kernel
theorem dX2_drawAndSend_22 : decode cX2_drawAndSend 22 = .ok (.ifCond .le 40, 3) := by decide +kernel
theorem dX2_drawAndSend_25 : decode cX2_drawAndSend 25 = .ok (.aload_n 0, 1) := by decide +kernel
theorem dX2_drawAndSend_26 : decode cX2_drawAndSend 26 = .ok (.getfield 37, 3) := by decide +kernel
theorem dX2_drawAndSend_29 : decode cX2_drawAndSend 29 = .ok (.ifCond .le 33, 3) := by decide +kernel
theorem dX2_drawAndSend_32 : decode cX2_drawAndSend 32 = .ok (.aload_n 0, 1) := by decide +kernel
theorem dX2_drawAndSend_33 : decode cX2_drawAndSend 33 = .ok (.getfield 34, 3) := by decide +kernel
theorem dX2_drawAndSend_36 : decode cX2_drawAndSend 36 = .ok (.aload_n 0, 1) := by decide +kernel
theorem dX2_drawAndSend_37 : decode cX2_drawAndSend 37 = .ok (.getfield 9, 3) := by decide +kernel
theorem dX2_drawAndSend_40 : decode cX2_drawAndSend 40 = .ok (.ldc 94, 2) := by decide +kernel
theorem dX2_drawAndSend_42 : decode cX2_drawAndSend 42 = .ok (.idiv, 1) := by decide +kernel
theorem dX2_drawAndSend_43 : decode cX2_drawAndSend 43 = .ok (.aload_n 0, 1) := by decide +kernel
theorem dX2_drawAndSend_44 : decode cX2_drawAndSend 44 = .ok (.getfield 40, 3) := by decide +kernel
theorem dX2_drawAndSend_47 : decode cX2_drawAndSend 47 = .ok (.irem, 1) := by decide +kernel
theorem dX2_drawAndSend_48 : decode cX2_drawAndSend 48 = .ok (.aload_n 0, 1) := by decide +kernel
theorem dX2_drawAndSend_49 : decode cX2_drawAndSend 49 = .ok (.getfield 9, 3) := by decide +kernel
theorem dX2_drawAndSend_52 : decode cX2_drawAndSend 52 = .ok (.sipush 128, 3) := by decide +kernel
theorem dX2_drawAndSend_55 : decode cX2_drawAndSend 55 = .ok (.idiv, 1) := by decide +kernel
theorem dX2_drawAndSend_56 : decode cX2_drawAndSend 56 = .ok (.aload_n 0, 1) := by decide +kernel
theorem dX2_drawAndSend_57 : decode cX2_drawAndSend 57 = .ok (.getfield 37, 3) := by decide +kernel
theorem dX2_drawAndSend_60 : decode cX2_drawAndSend 60 = .ok (.irem, 1) := by decide +kernel
theorem dX2_drawAndSend_61 : decode cX2_drawAndSend 61 = .ok (.iastore, 1) := by decide +kernel
theorem dX2_drawAndSend_62 : decode cX2_drawAndSend 62 = .ok (.return_, 1) := by decide +kernel
theorem dX2_crewOf_0 : decode cX2_crewOf 0 = .ok (.iconst 0, 1) := by decide +kernel
theorem dX2_crewOf_1 : decode cX2_crewOf 1 = .ok (.istore_n 2, 1) := by decide +kernel
theorem dX2_crewOf_2 : decode cX2_crewOf 2 = .ok (.iconst 0, 1) := by decide +kernel
theorem dX2_crewOf_3 : decode cX2_crewOf 3 = .ok (.istore_n 3, 1) := by decide +kernel
theorem dX2_crewOf_4 : decode cX2_crewOf 4 = .ok (.iload_n 3, 1) := by decide +kernel
theorem dX2_crewOf_5 : decode cX2_crewOf 5 = .ok (.aload_n 0, 1) := by decide +kernel
theorem dX2_crewOf_6 : decode cX2_crewOf 6 = .ok (.getfield 40, 3) := by decide +kernel
theorem dX2_crewOf_9 : decode cX2_crewOf 9 = .ok (.if_icmp .ge 25, 3) := by decide +kernel
theorem dX2_crewOf_12 : decode cX2_crewOf 12 = .ok (.aload_n 0, 1) := by decide +kernel
theorem dX2_crewOf_13 : decode cX2_crewOf 13 = .ok (.getfield 34, 3) := by decide +kernel
theorem dX2_crewOf_16 : decode cX2_crewOf 16 = .ok (.iload_n 3, 1) := by decide +kernel
theorem dX2_crewOf_17 : decode cX2_crewOf 17 = .ok (.iaload, 1) := by decide +kernel
theorem dX2_crewOf_18 : decode cX2_crewOf 18 = .ok (.iload_n 1, 1) := by decide +kernel
theorem dX2_crewOf_19 : decode cX2_crewOf 19 = .ok (.if_icmp .ne 9, 3) := by decide +kernel
theorem dX2_crewOf_22 : decode cX2_crewOf 22 = .ok (.iload_n 2, 1) := by decide +kernel
theorem dX2_crewOf_23 : decode cX2_crewOf 23 = .ok (.iconst 1, 1) := by decide +kernel
theorem dX2_crewOf_24 : decode cX2_crewOf 24 = .ok (.iload_n 3, 1) := by decide +kernel
theorem dX2_crewOf_25 : decode cX2_crewOf 25 = .ok (.ishl, 1) := by decide +kernel
theorem dX2_crewOf_26 : decode cX2_crewOf 26 = .ok (.ior, 1) := by decide +kernel
theorem dX2_crewOf_27 : decode cX2_crewOf 27 = .ok (.istore_n 2, 1) := by decide +kernel
theorem dX2_crewOf_28 : decode cX2_crewOf 28 = .ok (.iinc 3 1, 3) := by decide +kernel
theorem dX2_crewOf_31 : decode cX2_crewOf 31 = .ok (.goto (-27), 3) := by decide +kernel
theorem dX2_crewOf_34 : decode cX2_crewOf 34 = .ok (.iload_n 2, 1) := by decide +kernel
theorem dX2_crewOf_35 : decode cX2_crewOf 35 = .ok (.ireturn, 1) := by decide +kernel
theorem dX2_sentSet_0 : decode cX2_sentSet 0 = .ok (.iconst 0, 1) := by decide +kernel
theorem dX2_sentSet_1 : decode cX2_sentSet 1 = .ok (.istore_n 1, 1) := by decide +kernel
theorem dX2_sentSet_2 : decode cX2_sentSet 2 = .ok (.iconst 0, 1) := by decide +kernel
theorem dX2_sentSet_3 : decode cX2_sentSet 3 = .ok (.istore_n 2, 1) := by decide +kernel
theorem dX2_sentSet_4 : decode cX2_sentSet 4 = .ok (.iload_n 2, 1) := by decide +kernel
theorem dX2_sentSet_5 : decode cX2_sentSet 5 = .ok (.aload_n 0, 1) := by decide +kernel
theorem dX2_sentSet_6 : decode cX2_sentSet 6 = .ok (.getfield 40, 3) := by decide +kernel
theorem dX2_sentSet_9 : decode cX2_sentSet 9 = .ok (.if_icmp .ge 24, 3) := by decide +kernel
theorem dX2_sentSet_12 : decode cX2_sentSet 12 = .ok (.aload_n 0, 1) := by decide +kernel
theorem dX2_sentSet_13 : decode cX2_sentSet 13 = .ok (.getfield 34, 3) := by decide +kernel
theorem dX2_sentSet_16 : decode cX2_sentSet 16 = .ok (.iload_n 2, 1) := by decide +kernel
theorem dX2_sentSet_17 : decode cX2_sentSet 17 = .ok (.iaload, 1) := by decide +kernel
theorem dX2_sentSet_18 : decode cX2_sentSet 18 = .ok (.ifCond .lt 9, 3) := by decide +kernel
theorem dX2_sentSet_21 : decode cX2_sentSet 21 = .ok (.iload_n 1, 1) := by decide +kernel
theorem dX2_sentSet_22 : decode cX2_sentSet 22 = .ok (.iconst 1, 1) := by decide +kernel
theorem dX2_sentSet_23 : decode cX2_sentSet 23 = .ok (.iload_n 2, 1) := by decide +kernel
theorem dX2_sentSet_24 : decode cX2_sentSet 24 = .ok (.ishl, 1) := by decide +kernel
theorem dX2_sentSet_25 : decode cX2_sentSet 25 = .ok (.ior, 1) := by decide +kernel
theorem dX2_sentSet_26 : decode cX2_sentSet 26 = .ok (.istore_n 1, 1) := by decide +kernel
theorem dX2_sentSet_27 : decode cX2_sentSet 27 = .ok (.iinc 2 1, 3) := by decide +kernel
theorem dX2_sentSet_30 : decode cX2_sentSet 30 = .ok (.goto (-26), 3) := by decide +kernel
theorem dX2_sentSet_33 : decode cX2_sentSet 33 = .ok (.iload_n 1, 1) := by decide +kernel
theorem dX2_sentSet_34 : decode cX2_sentSet 34 = .ok (.ireturn, 1) := by decide +kernel
set_option maxRecDepth 20000 in
theorem ggX2_goneSet_X2_isGone : GoodIn wsX2_goneSet wsX2_isGone := goodIn_r _ [6, 7, 8, 9, 10, 11, 12, 13, 14, 15, 16, 17, 18, 19, 20] (by decide +kernel) (by decide +kernel)
set_option maxRecDepth 20000 in
theorem gX2_goneSet_X2_isGone : GoodIn wsX2_goneSet (wsV RX2 55 RX2 yX2_isGone wsX2_isGone) := goodIn_app (goodIn_of _ (by decide +kernel)) ggX2_goneSet_X2_isGone
theorem dX2_goneSet_0 : decode cX2_goneSet 0 = .ok (.iconst 0, 1) := by decide +kernel
theorem dX2_goneSet_1 : decode cX2_goneSet 1 = .ok (.istore_n 1, 1) := by decide +kernel
theorem dX2_goneSet_2 : decode cX2_goneSet 2 = .ok (.iconst 0, 1) := by decide +kernel
theorem dX2_goneSet_3 : decode cX2_goneSet 3 = .ok (.istore_n 2, 1) := by decide +kernel
theorem dX2_goneSet_4 : decode cX2_goneSet 4 = .ok (.iload_n 2, 1) := by decide +kernel
theorem dX2_goneSet_5 : decode cX2_goneSet 5 = .ok (.aload_n 0, 1) := by decide +kernel
theorem dX2_goneSet_6 : decode cX2_goneSet 6 = .ok (.getfield 37, 3) := by decide +kernel
theorem dX2_goneSet_9 : decode cX2_goneSet 9 = .ok (.if_icmp .ge 23, 3) := by decide +kernel
theorem dX2_goneSet_12 : decode cX2_goneSet 12 = .ok (.aload_n 0, 1) := by decide +kernel
theorem dX2_goneSet_13 : decode cX2_goneSet 13 = .ok (.iload_n 2, 1) := by decide +kernel
theorem dX2_goneSet_14 : decode cX2_goneSet 14 = .ok (.invokevirtual 55, 3) := by decide +kernel
theorem dX2_goneSet_17 : decode cX2_goneSet 17 = .ok (.ifCond .eq 9, 3) := by decide +kernel
theorem dX2_goneSet_20 : decode cX2_goneSet 20 = .ok (.iload_n 1, 1) := by decide +kernel
theorem dX2_goneSet_21 : decode cX2_goneSet 21 = .ok (.iconst 1, 1) := by decide +kernel
theorem dX2_goneSet_22 : decode cX2_goneSet 22 = .ok (.iload_n 2, 1) := by decide +kernel
theorem dX2_goneSet_23 : decode cX2_goneSet 23 = .ok (.ishl, 1) := by decide +kernel
theorem dX2_goneSet_24 : decode cX2_goneSet 24 = .ok (.ior, 1) := by decide +kernel
theorem dX2_goneSet_25 : decode cX2_goneSet 25 = .ok (.istore_n 1, 1) := by decide +kernel
theorem dX2_goneSet_26 : decode cX2_goneSet 26 = .ok (.iinc 2 1, 3) := by decide +kernel
theorem dX2_goneSet_29 : decode cX2_goneSet 29 = .ok (.goto (-25), 3) := by decide +kernel
theorem dX2_goneSet_32 : decode cX2_goneSet 32 = .ok (.iload_n 1, 1) := by decide +kernel
theorem dX2_goneSet_33 : decode cX2_goneSet 33 = .ok (.ireturn, 1) := by decide +kernel
set_option maxRecDepth 20000 in
theorem ggX2_tornSet_X2_isTorn : GoodIn wsX2_tornSet wsX2_isTorn := goodIn_r _ [6, 7, 8, 9, 10, 11, 12, 13, 14, 15, 16, 17, 18, 19] (by decide +kernel) (by decide +kernel)
set_option maxRecDepth 20000 in
theorem gX2_tornSet_X2_isTorn : GoodIn wsX2_tornSet (wsV RX2 59 RX2 yX2_isTorn wsX2_isTorn) := goodIn_app (goodIn_of _ (by decide +kernel)) ggX2_tornSet_X2_isTorn
theorem dX2_tornSet_0 : decode cX2_tornSet 0 = .ok (.iconst 0, 1) := by decide +kernel
theorem dX2_tornSet_1 : decode cX2_tornSet 1 = .ok (.istore_n 1, 1) := by decide +kernel
theorem dX2_tornSet_2 : decode cX2_tornSet 2 = .ok (.iconst 0, 1) := by decide +kernel
theorem dX2_tornSet_3 : decode cX2_tornSet 3 = .ok (.istore_n 2, 1) := by decide +kernel
theorem dX2_tornSet_4 : decode cX2_tornSet 4 = .ok (.iload_n 2, 1) := by decide +kernel
theorem dX2_tornSet_5 : decode cX2_tornSet 5 = .ok (.aload_n 0, 1) := by decide +kernel
theorem dX2_tornSet_6 : decode cX2_tornSet 6 = .ok (.getfield 37, 3) := by decide +kernel
theorem dX2_tornSet_9 : decode cX2_tornSet 9 = .ok (.if_icmp .ge 23, 3) := by decide +kernel
theorem dX2_tornSet_12 : decode cX2_tornSet 12 = .ok (.aload_n 0, 1) := by decide +kernel
theorem dX2_tornSet_13 : decode cX2_tornSet 13 = .ok (.iload_n 2, 1) := by decide +kernel
theorem dX2_tornSet_14 : decode cX2_tornSet 14 = .ok (.invokevirtual 59, 3) := by decide +kernel
theorem dX2_tornSet_17 : decode cX2_tornSet 17 = .ok (.ifCond .eq 9, 3) := by decide +kernel
theorem dX2_tornSet_20 : decode cX2_tornSet 20 = .ok (.iload_n 1, 1) := by decide +kernel
theorem dX2_tornSet_21 : decode cX2_tornSet 21 = .ok (.iconst 1, 1) := by decide +kernel
theorem dX2_tornSet_22 : decode cX2_tornSet 22 = .ok (.iload_n 2, 1) := by decide +kernel
theorem dX2_tornSet_23 : decode cX2_tornSet 23 = .ok (.ishl, 1) := by decide +kernel
theorem dX2_tornSet_24 : decode cX2_tornSet 24 = .ok (.ior, 1) := by decide +kernel
theorem dX2_tornSet_25 : decode cX2_tornSet 25 = .ok (.istore_n 1, 1) := by decide +kernel
theorem dX2_tornSet_26 : decode cX2_tornSet 26 = .ok (.iinc 2 1, 3) := by decide +kernel
theorem dX2_tornSet_29 : decode cX2_tornSet 29 = .ok (.goto (-25), 3) := by decide +kernel
theorem dX2_tornSet_32 : decode cX2_tornSet 32 = .ok (.iload_n 1, 1) := by decide +kernel
theorem dX2_tornSet_33 : decode cX2_tornSet 33 = .ok (.ireturn, 1) := by decide +kernel
set_option maxRecDepth 20000 in
theorem ggX2_openMarks_X2_isOpen : GoodIn wsX2_openMarks wsX2_isOpen := goodIn_r _ [6, 7, 8, 9, 5, 10, 11, 12, 13, 14, 15, 16, 17, 18, 19, 20, 21, 22, 23, 24, 25, 26, 27, 28, 29] (by decide +kernel) (by decide +kernel)
set_option maxRecDepth 20000 in
theorem gX2_openMarks_X2_isOpen : GoodIn wsX2_openMarks (wsV RX2 62 RX2 yX2_isOpen wsX2_isOpen) := goodIn_app (goodIn_of _ (by decide +kernel)) ggX2_openMarks_X2_isOpen
theorem dX2_openMarks_0 : decode cX2_openMarks 0 = .ok (.iconst 0, 1) := by decide +kernel
theorem dX2_openMarks_1 : decode cX2_openMarks 1 = .ok (.istore_n 1, 1) := by decide +kernel
theorem dX2_openMarks_2 : decode cX2_openMarks 2 = .ok (.iconst 0, 1) := by decide +kernel
theorem dX2_openMarks_3 : decode cX2_openMarks 3 = .ok (.istore_n 2, 1) := by decide +kernel
theorem dX2_openMarks_4 : decode cX2_openMarks 4 = .ok (.iload_n 2, 1) := by decide +kernel
theorem dX2_openMarks_5 : decode cX2_openMarks 5 = .ok (.aload_n 0, 1) := by decide +kernel
theorem dX2_openMarks_6 : decode cX2_openMarks 6 = .ok (.getfield 37, 3) := by decide +kernel
theorem dX2_openMarks_9 : decode cX2_openMarks 9 = .ok (.if_icmp .ge 20, 3) := by decide +kernel
theorem dX2_openMarks_12 : decode cX2_openMarks 12 = .ok (.aload_n 0, 1) := by decide +kernel
theorem dX2_openMarks_13 : decode cX2_openMarks 13 = .ok (.iload_n 2, 1) := by decide +kernel
theorem dX2_openMarks_14 : decode cX2_openMarks 14 = .ok (.invokevirtual 62, 3) := by decide +kernel
theorem dX2_openMarks_17 : decode cX2_openMarks 17 = .ok (.ifCond .eq 6, 3) := by decide +kernel
theorem dX2_openMarks_20 : decode cX2_openMarks 20 = .ok (.iinc 1 1, 3) := by decide +kernel
theorem dX2_openMarks_23 : decode cX2_openMarks 23 = .ok (.iinc 2 1, 3) := by decide +kernel
theorem dX2_openMarks_26 : decode cX2_openMarks 26 = .ok (.goto (-22), 3) := by decide +kernel
theorem dX2_openMarks_29 : decode cX2_openMarks 29 = .ok (.iload_n 1, 1) := by decide +kernel
theorem dX2_openMarks_30 : decode cX2_openMarks 30 = .ok (.ireturn, 1) := by decide +kernel
theorem dX2_darkTogether_0 : decode cX2_darkTogether 0 = .ok (.iconst 0, 1) := by decide +kernel
theorem dX2_darkTogether_1 : decode cX2_darkTogether 1 = .ok (.istore_n 1, 1) := by decide +kernel
theorem dX2_darkTogether_2 : decode cX2_darkTogether 2 = .ok (.iconst 0, 1) := by decide +kernel
theorem dX2_darkTogether_3 : decode cX2_darkTogether 3 = .ok (.istore_n 2, 1) := by decide +kernel
theorem dX2_darkTogether_4 : decode cX2_darkTogether 4 = .ok (.iload_n 2, 1) := by decide +kernel
theorem dX2_darkTogether_5 : decode cX2_darkTogether 5 = .ok (.aload_n 0, 1) := by decide +kernel
theorem dX2_darkTogether_6 : decode cX2_darkTogether 6 = .ok (.getfield 37, 3) := by decide +kernel
theorem dX2_darkTogether_9 : decode cX2_darkTogether 9 = .ok (.if_icmp .ge 18, 3) := by decide +kernel
theorem dX2_darkTogether_12 : decode cX2_darkTogether 12 = .ok (.iload_n 1, 1) := by decide +kernel
theorem dX2_darkTogether_13 : decode cX2_darkTogether 13 = .ok (.aload_n 0, 1) := by decide +kernel
theorem dX2_darkTogether_14 : decode cX2_darkTogether 14 = .ok (.getfield 15, 3) := by decide +kernel
theorem dX2_darkTogether_17 : decode cX2_darkTogether 17 = .ok (.iload_n 2, 1) := by decide +kernel
theorem dX2_darkTogether_18 : decode cX2_darkTogether 18 = .ok (.iaload, 1) := by decide +kernel
theorem dX2_darkTogether_19 : decode cX2_darkTogether 19 = .ok (.iadd, 1) := by decide +kernel
theorem dX2_darkTogether_20 : decode cX2_darkTogether 20 = .ok (.istore_n 1, 1) := by decide +kernel
theorem dX2_darkTogether_21 : decode cX2_darkTogether 21 = .ok (.iinc 2 1, 3) := by decide +kernel
theorem dX2_darkTogether_24 : decode cX2_darkTogether 24 = .ok (.goto (-20), 3) := by decide +kernel
theorem dX2_darkTogether_27 : decode cX2_darkTogether 27 = .ok (.iload_n 1, 1) := by decide +kernel
theorem dX2_darkTogether_28 : decode cX2_darkTogether 28 = .ok (.ireturn, 1) := by decide +kernel
theorem dX2_sizeTogether_0 : decode cX2_sizeTogether 0 = .ok (.iconst 0, 1) := by decide +kernel
theorem dX2_sizeTogether_1 : decode cX2_sizeTogether 1 = .ok (.istore_n 1, 1) := by decide +kernel
theorem dX2_sizeTogether_2 : decode cX2_sizeTogether 2 = .ok (.iconst 0, 1) := by decide +kernel
theorem dX2_sizeTogether_3 : decode cX2_sizeTogether 3 = .ok (.istore_n 2, 1) := by decide +kernel
theorem dX2_sizeTogether_4 : decode cX2_sizeTogether 4 = .ok (.iload_n 2, 1) := by decide +kernel
theorem dX2_sizeTogether_5 : decode cX2_sizeTogether 5 = .ok (.aload_n 0, 1) := by decide +kernel
theorem dX2_sizeTogether_6 : decode cX2_sizeTogether 6 = .ok (.getfield 40, 3) := by decide +kernel
theorem dX2_sizeTogether_9 : decode cX2_sizeTogether 9 = .ok (.if_icmp .ge 18, 3) := by decide +kernel
theorem dX2_sizeTogether_12 : decode cX2_sizeTogether 12 = .ok (.iload_n 1, 1) := by decide +kernel
theorem dX2_sizeTogether_13 : decode cX2_sizeTogether 13 = .ok (.aload_n 0, 1) := by decide +kernel
theorem dX2_sizeTogether_14 : decode cX2_sizeTogether 14 = .ok (.getfield 31, 3) := by decide +kernel
theorem dX2_sizeTogether_17 : decode cX2_sizeTogether 17 = .ok (.iload_n 2, 1) := by decide +kernel
theorem dX2_sizeTogether_18 : decode cX2_sizeTogether 18 = .ok (.iaload, 1) := by decide +kernel
theorem dX2_sizeTogether_19 : decode cX2_sizeTogether 19 = .ok (.iadd, 1) := by decide +kernel
theorem dX2_sizeTogether_20 : decode cX2_sizeTogether 20 = .ok (.istore_n 1, 1) := by decide +kernel
theorem dX2_sizeTogether_21 : decode cX2_sizeTogether 21 = .ok (.iinc 2 1, 3) := by decide +kernel
theorem dX2_sizeTogether_24 : decode cX2_sizeTogether 24 = .ok (.goto (-20), 3) := by decide +kernel
theorem dX2_sizeTogether_27 : decode cX2_sizeTogether 27 = .ok (.iload_n 1, 1) := by decide +kernel
theorem dX2_sizeTogether_28 : decode cX2_sizeTogether 28 = .ok (.ireturn, 1) := by decide +kernel
theorem dX3_init_0 : decode cX3_init 0 = .ok (.aload_n 0, 1) := by decide +kernel
theorem dX3_init_1 : decode cX3_init 1 = .ok (.invokespecial 3, 3) := by decide +kernel
theorem dX3_init_4 : decode cX3_init 4 = .ok (.aload_n 0, 1) := by decide +kernel
theorem dX3_init_5 : decode cX3_init 5 = .ok (.bipush 6, 2) := by decide +kernel
theorem dX3_init_7 : decode cX3_init 7 = .ok (.newarray .int, 2) := by decide +kernel
theorem dX3_init_9 : decode cX3_init 9 = .ok (.putfield 9, 3) := by decide +kernel
theorem dX3_init_12 : decode cX3_init 12 = .ok (.aload_n 0, 1) := by decide +kernel
theorem dX3_init_13 : decode cX3_init 13 = .ok (.bipush 6, 2) := by decide +kernel
theorem dX3_init_15 : decode cX3_init 15 = .ok (.newarray .int, 2) := by decide +kernel
theorem dX3_init_17 : decode cX3_init 17 = .ok (.putfield 15, 3) := by decide +kernel
theorem dX3_init_20 : decode cX3_init 20 = .ok (.return_, 1) := by decide +kernel
set_option maxRecDepth 20000 in
theorem ggX3_plan_X2_become : GoodIn wsX3_plan wsX2_become := goodIn_r _ [7, 8, 9, 10, 11, 12, 13, 14, 15, 16, 17, 18, 19, 20, 21, 22, 23, 103, 104, 105, 106, 107, 108, 109, 110, 111, 112, 113, 114] (by decide +kernel) (by decide +kernel)
set_option maxRecDepth 20000 in
theorem gX3_plan_X2_become : GoodIn wsX3_plan (wsV RX3 18 RX2 yX2_become wsX2_become) := goodIn_app (goodIn_of _ (by decide +kernel)) ggX3_plan_X2_become
set_option maxRecDepth 20000 in
theorem ggX3_plan_X2_openMarks : GoodIn wsX3_plan wsX2_openMarks := goodIn_r _ [27, 8, 28, 29, 30, 6, 31, 32, 33, 34, 35, 13, 19, 36, 37, 38, 39, 20, 103, 104, 105, 106, 107, 108, 109, 110, 111, 112, 113, 114] (by decide +kernel) (by decide +kernel)
set_option maxRecDepth 20000 in
theorem gX3_plan_X2_openMarks : GoodIn wsX3_plan (wsV RX3 24 RX2 yX2_openMarks wsX2_openMarks) := goodIn_app (goodIn_of _ (by decide +kernel)) ggX3_plan_X2_openMarks
set_option maxRecDepth 20000 in
theorem ggX3_plan_X2_goneSet : GoodIn wsX3_plan wsX2_goneSet := goodIn_r _ [43, 8, 32, 33, 34, 6, 35, 13, 19, 103, 104, 105, 106, 107, 108, 109, 110, 111, 112, 113, 114] (by decide +kernel) (by decide +kernel)
set_option maxRecDepth 20000 in
theorem gX3_plan_X2_goneSet : GoodIn wsX3_plan (wsV RX3 35 RX2 yX2_goneSet wsX2_goneSet) := goodIn_app (goodIn_of _ (by decide +kernel)) ggX3_plan_X2_goneSet
set_option maxRecDepth 20000 in
theorem ggX3_plan_J6_bitCount_0f7a4 : GoodIn wsX3_plan wsJ6_bitCount_0f7a4 := goodIn_r _ [47, 48, 49, 50] (by decide +kernel) (by decide +kernel)
set_option maxRecDepth 20000 in
theorem gX3_plan_J6_bitCount_0f7a4 : GoodIn wsX3_plan (va_wsS RX3 38 yJ6_bitCount_0f7a4 wsJ6_bitCount_0f7a4) := goodIn_app (goodIn_of _ (by decide +kernel)) ggX3_plan_J6_bitCount_0f7a4
set_option maxRecDepth 20000 in
theorem ggX3_plan_X3_follow : GoodIn wsX3_plan wsX3_follow := goodIn_r _ [55, 1, 2, 56, 57, 58, 59, 60, 61, 54, 62, 63, 64, 15, 16, 17, 65, 29, 30, 6, 31, 32, 33, 34, 35, 13, 19, 36, 37, 38, 39, 20, 66, 67, 68, 69, 18, 70, 71, 72, 73, 74, 75, 76, 77, 22, 28, 78, 79, 80, 81, 21, 82, 83, 84, 85, 86, 87, 88, 11, 89, 90, 91, 92, 93, 94, 95, 96, 97, 98, 51, 52, 53, 99, 100, 101, 102, 103, 104, 105, 106, 107, 108, 109, 110, 111, 112, 113, 114] (by decide +kernel) (by decide +kernel)
set_option maxRecDepth 20000 in
theorem gX3_plan_X3_follow : GoodIn wsX3_plan (wsV RX3 44 RX3 yX3_follow wsX3_follow) := goodIn_app (goodIn_of _ (by decide +kernel)) ggX3_plan_X3_follow
theorem dX3_plan_0 : decode cX3_plan 0 = .ok (.aload_n 2, 1) := by decide +kernel
theorem dX3_plan_1 : decode cX3_plan 1 = .ok (.aload_n 1, 1) := by decide +kernel
theorem dX3_plan_2 : decode cX3_plan 2 = .ok (.invokevirtual 18, 3) := by decide +kernel
theorem dX3_plan_5 : decode cX3_plan 5 = .ok (.aload_n 0, 1) := by decide +kernel
theorem dX3_plan_6 : decode cX3_plan 6 = .ok (.aload_n 1, 1) := by decide +kernel
theorem dX3_plan_7 : decode cX3_plan 7 = .ok (.invokevirtual 24, 3) := by decide +kernel
theorem dX3_plan_10 : decode cX3_plan 10 = .ok (.putfield 28, 3) := by decide +kernel
theorem dX3_plan_13 : decode cX3_plan 13 = .ok (.aload_n 0, 1) := by decide +kernel
theorem dX3_plan_14 : decode cX3_plan 14 = .ok (.iconst (-1), 1) := by decide +kernel
theorem dX3_plan_15 : decode cX3_plan 15 = .ok (.putfield 32, 3) := by decide +kernel
theorem dX3_plan_18 : decode cX3_plan 18 = .ok (.aload_n 0, 1) := by decide +kernel
theorem dX3_plan_19 : decode cX3_plan 19 = .ok (.aload_n 1, 1) := by decide +kernel
theorem dX3_plan_20 : decode cX3_plan 20 = .ok (.aload_n 2, 1) := by decide +kernel
theorem dX3_plan_21 : decode cX3_plan 21 = .ok (.iload_n 3, 1) := by decide +kernel
theorem dX3_plan_22 : decode cX3_plan 22 = .ok (.iconst 0, 1) := by decide +kernel
theorem dX3_plan_23 : decode cX3_plan 23 = .ok (.iconst 0, 1) := by decide +kernel
theorem dX3_plan_24 : decode cX3_plan 24 = .ok (.aload_n 1, 1) := by decide +kernel
theorem dX3_plan_25 : decode cX3_plan 25 = .ok (.invokevirtual 35, 3) := by decide +kernel
theorem dX3_plan_28 : decode cX3_plan 28 = .ok (.invokestatic 38, 3) := by decide +kernel
theorem dX3_plan_31 : decode cX3_plan 31 = .ok (.invokevirtual 44, 3) := by decide +kernel
theorem dX3_plan_34 : decode cX3_plan 34 = .ok (.return_, 1) := by decide +kernel
set_option maxRecDepth 20000 in
theorem ggX3_follow_X3_weigh : GoodIn wsX3_follow wsX3_weigh := goodIn_r _ [10, 2, 5, 11, 1, 12, 13, 14, 15, 73, 74, 75, 76] (by decide +kernel) (by decide +kernel)
set_option maxRecDepth 20000 in
theorem gX3_follow_X3_weigh : GoodIn wsX3_follow (wsV RX3 48 RX3 yX3_weigh wsX3_weigh) := goodIn_app (goodIn_of _ (by decide +kernel)) ggX3_follow_X3_weigh
set_option maxRecDepth 20000 in
theorem ggX3_follow_X2_isOpen : GoodIn wsX3_follow wsX2_isOpen := goodIn_r _ [20, 21, 22, 23, 19, 24, 25, 26, 27, 28, 29, 30, 31, 77, 78, 79, 80, 81, 82, 83, 84, 85, 86, 87, 88] (by decide +kernel) (by decide +kernel)
set_option maxRecDepth 20000 in
theorem gX3_follow_X2_isOpen : GoodIn wsX3_follow (wsV RX3 58 RX2 yX2_isOpen wsX2_isOpen) := goodIn_app (goodIn_of _ (by decide +kernel)) ggX3_follow_X2_isOpen
set_option maxRecDepth 20000 in
theorem ggX3_follow_X2_markAsIn : GoodIn wsX3_follow wsX2_markAsIn := goodIn_r _ [35, 25, 36, 26, 31, 77, 78, 79, 80, 81, 82, 83, 84, 85, 86, 87, 88] (by decide +kernel) (by decide +kernel)
set_option maxRecDepth 20000 in
theorem gX3_follow_X2_markAsIn : GoodIn wsX3_follow (wsV RX3 62 RX2 yX2_markAsIn wsX2_markAsIn) := goodIn_app (goodIn_of _ (by decide +kernel)) ggX3_follow_X2_markAsIn
set_option maxRecDepth 20000 in
theorem ggX3_follow_X2_rubTimes : GoodIn wsX3_follow wsX2_rubTimes := goodIn_r _ [40, 41, 42, 43, 19, 44, 45, 46, 17, 18, 20, 21, 22, 23, 24, 25, 26, 27, 28, 29, 30, 31, 47, 48, 49, 50, 51, 52, 53, 54, 55, 36, 56, 57, 58, 59, 60, 61, 62, 63, 64, 65, 66, 67, 68, 77, 78, 79, 80, 81, 82, 83, 84, 85, 86, 87, 88] (by decide +kernel) (by decide +kernel)
set_option maxRecDepth 20000 in
theorem gX3_follow_X2_rubTimes : GoodIn wsX3_follow (wsV RX3 66 RX2 yX2_rubTimes wsX2_rubTimes) := goodIn_app (goodIn_of _ (by decide +kernel)) ggX3_follow_X2_rubTimes
set_option maxRecDepth 20000 in
theorem ggX3_follow_X2_isGone : GoodIn wsX3_follow wsX2_isGone := goodIn_r _ [24, 25, 26, 77, 78, 79, 80, 81, 82, 83, 84, 85, 86, 87, 88] (by decide +kernel) (by decide +kernel)
set_option maxRecDepth 20000 in
theorem gX3_follow_X2_isGone : GoodIn wsX3_follow (wsV RX3 70 RX2 yX2_isGone wsX2_isGone) := goodIn_app (goodIn_of _ (by decide +kernel)) ggX3_follow_X2_isGone
set_option maxRecDepth 20000 in
theorem ggX3_follow_X3_follow : GoodIn wsX3_follow wsX3_follow := goodIn_r _ [0, 1, 2, 3, 4, 5, 6, 7, 8, 9, 10, 11, 12, 13, 14, 15, 16, 17, 18, 19, 20, 21, 22, 23, 24, 25, 26, 27, 28, 29, 30, 31, 32, 33, 34, 35, 36, 37, 38, 39, 40, 41, 42, 43, 44, 45, 46, 47, 48, 49, 50, 51, 52, 53, 54, 55, 56, 57, 58, 59, 60, 61, 62, 63, 64, 65, 66, 67, 68, 69, 70, 71, 72, 73, 74, 75, 76, 77, 78, 79, 80, 81, 82, 83, 84, 85, 86, 87, 88] (by decide +kernel) (by decide +kernel)
set_option maxRecDepth 20000 in
theorem gX3_follow_X3_follow : GoodIn wsX3_follow (wsV RX3 44 RX3 yX3_follow wsX3_follow) := goodIn_app (goodIn_of _ (by decide +kernel)) ggX3_follow_X3_follow
theorem dX3_follow_0 : decode cX3_follow 0 = .ok (.iload 4, 2) := by decide +kernel
theorem dX3_follow_2 : decode cX3_follow 2 = .ok (.aload_n 0, 1) := by decide +kernel
theorem dX3_follow_3 : decode cX3_follow 3 = .ok (.getfield 28, 3) := by decide +kernel
theorem dX3_follow_6 : decode cX3_follow 6 = .ok (.if_icmp .lt 10, 3) := by decide +kernel
theorem dX3_follow_9 : decode cX3_follow 9 = .ok (.aload_n 0, 1) := by decide +kernel
theorem dX3_follow_10 : decode cX3_follow 10 = .ok (.iload 6, 2) := by decide +kernel
theorem dX3_follow_12 : decode cX3_follow 12 = .ok (.invokevirtual 48, 3) := by decide +kernel
theorem dX3_follow_15 : decode cX3_follow 15 = .ok (.return_, 1) := by decide +kernel
theorem dX3_follow_16 : decode cX3_follow 16 = .ok (.iload 6, 2) := by decide +kernel
theorem dX3_follow_18 : decode cX3_follow 18 = .ok (.aload_n 0, 1) := by decide +kernel
theorem dX3_follow_19 : decode cX3_follow 19 = .ok (.getfield 28, 3) := by decide +kernel
theorem dX3_follow_22 : decode cX3_follow 22 = .ok (.iadd, 1) := by decide +kernel
theorem dX3_follow_23 : decode cX3_follow 23 = .ok (.iload 4, 2) := by decide +kernel
theorem dX3_follow_25 : decode cX3_follow 25 = .ok (.isub, 1) := by decide +kernel
theorem dX3_follow_26 : decode cX3_follow 26 = .ok (.aload_n 0, 1) := by decide +kernel
theorem dX3_follow_27 : decode cX3_follow 27 = .ok (.getfield 32, 3) := by decide +kernel
theorem dX3_follow_30 : decode cX3_follow 30 = .ok (.if_icmp .gt 4, 3) := by decide +kernel
theorem dX3_follow_33 : decode cX3_follow 33 = .ok (.return_, 1) := by decide +kernel
theorem dX3_follow_34 : decode cX3_follow 34 = .ok (.aload_n 2, 1) := by decide +kernel
theorem dX3_follow_35 : decode cX3_follow 35 = .ok (.getfield 52, 3) := by decide +kernel
theorem dX3_follow_38 : decode cX3_follow 38 = .ok (.iload_n 3, 1) := by decide +kernel
theorem dX3_follow_39 : decode cX3_follow 39 = .ok (.iaload, 1) := by decide +kernel
theorem dX3_follow_40 : decode cX3_follow 40 = .ok (.istore 7, 2) := by decide +kernel
theorem dX3_follow_42 : decode cX3_follow 42 = .ok (.iconst 0, 1) := by decide +kernel
theorem dX3_follow_43 : decode cX3_follow 43 = .ok (.istore 8, 2) := by decide +kernel
theorem dX3_follow_45 : decode cX3_follow 45 = .ok (.iload 8, 2) := by decide +kernel
theorem dX3_follow_47 : decode cX3_follow 47 = .ok (.aload_n 1, 1) := by decide +kernel
theorem dX3_follow_48 : decode cX3_follow 48 = .ok (.getfield 55, 3) := by decide +kernel
theorem dX3_follow_51 : decode cX3_follow 51 = .ok (.if_icmp .ge 101, 3) := by decide +kernel
theorem dX3_follow_54 : decode cX3_follow 54 = .ok (.iload 5, 2) := by decide +kernel
theorem dX3_follow_56 : decode cX3_follow 56 = .ok (.iload 8, 2) := by decide +kernel
theorem dX3_follow_58 : decode cX3_follow 58 = .ok (.ishr, 1) := by decide +kernel
theorem dX3_follow_59 : decode cX3_follow 59 = .ok (.iconst 1, 1) := by decide +kernel
theorem dX3_follow_60 : decode cX3_follow 60 = .ok (.iand, 1) := by decide +kernel
theorem dX3_follow_61 : decode cX3_follow 61 = .ok (.ifCond .ne 85, 3) := by decide +kernel
theorem dX3_follow_64 : decode cX3_follow 64 = .ok (.aload_n 1, 1) := by decide +kernel
theorem dX3_follow_65 : decode cX3_follow 65 = .ok (.iload 8, 2) := by decide +kernel
theorem dX3_follow_67 : decode cX3_follow 67 = .ok (.invokevirtual 58, 3) := by decide +kernel
theorem dX3_follow_70 : decode cX3_follow 70 = .ok (.ifCond .eq 76, 3) := by decide +kernel
theorem dX3_follow_73 : decode cX3_follow 73 = .ok (.aload_n 0, 1) := by decide +kernel
theorem dX3_follow_74 : decode cX3_follow 74 = .ok (.getfield 9, 3) := by decide +kernel
theorem dX3_follow_77 : decode cX3_follow 77 = .ok (.iload 4, 2) := by decide +kernel
theorem dX3_follow_79 : decode cX3_follow 79 = .ok (.iload 8, 2) := by decide +kernel
theorem dX3_follow_81 : decode cX3_follow 81 = .ok (.iastore, 1) := by decide +kernel
theorem dX3_follow_82 : decode cX3_follow 82 = .ok (.aload_n 2, 1) := by decide +kernel
theorem dX3_follow_83 : decode cX3_follow 83 = .ok (.getfield 52, 3) := by decide +kernel
theorem dX3_follow_86 : decode cX3_follow 86 = .ok (.iload_n 3, 1) := by decide +kernel
theorem dX3_follow_87 : decode cX3_follow 87 = .ok (.iload 7, 2) := by decide +kernel
theorem dX3_follow_89 : decode cX3_follow 89 = .ok (.iastore, 1) := by decide +kernel
theorem dX3_follow_90 : decode cX3_follow 90 = .ok (.aload_n 2, 1) := by decide +kernel
theorem dX3_follow_91 : decode cX3_follow 91 = .ok (.aload_n 1, 1) := by decide +kernel
theorem dX3_follow_92 : decode cX3_follow 92 = .ok (.iload 8, 2) := by decide +kernel
theorem dX3_follow_94 : decode cX3_follow 94 = .ok (.invokevirtual 62, 3) := by decide +kernel
theorem dX3_follow_97 : decode cX3_follow 97 = .ok (.aload_n 2, 1) := by decide +kernel
theorem dX3_follow_98 : decode cX3_follow 98 = .ok (.iload_n 3, 1) := by decide +kernel
theorem dX3_follow_99 : decode cX3_follow 99 = .ok (.iload 8, 2) := by decide +kernel
theorem dX3_follow_101 : decode cX3_follow 101 = .ok (.bipush 60, 2) := by decide +kernel
theorem dX3_follow_103 : decode cX3_follow 103 = .ok (.invokevirtual 66, 3) := by decide +kernel
theorem dX3_follow_106 : decode cX3_follow 106 = .ok (.pop, 1) := by decide +kernel
theorem dX3_follow_107 : decode cX3_follow 107 = .ok (.aload_n 2, 1) := by decide +kernel
theorem dX3_follow_108 : decode cX3_follow 108 = .ok (.iload 8, 2) := by decide +kernel
theorem dX3_follow_110 : decode cX3_follow 110 = .ok (.invokevirtual 70, 3) := by decide +kernel
theorem dX3_follow_113 : decode cX3_follow 113 = .ok (.ifCond .eq 7, 3) := by decide +kernel
theorem dX3_follow_116 : decode cX3_follow 116 = .ok (.iconst 1, 1) := by decide +kernel
theorem dX3_follow_117 : decode cX3_follow 117 = .ok (.goto 4, 3) := by decide +kernel
theorem dX3_follow_120 : decode cX3_follow 120 = .ok (.iconst 0, 1) := by decide +kernel
theorem dX3_follow_121 : decode cX3_follow 121 = .ok (.istore 9, 2) := by decide +kernel
theorem dX3_follow_123 : decode cX3_follow 123 = .ok (.aload_n 0, 1) := by decide +kernel
theorem dX3_follow_124 : decode cX3_follow 124 = .ok (.aload_n 1, 1) := by decide +kernel
theorem dX3_follow_125 : decode cX3_follow 125 = .ok (.aload_n 2, 1) := by decide +kernel
theorem dX3_follow_126 : decode cX3_follow 126 = .ok (.iload_n 3, 1) := by decide +kernel
theorem dX3_follow_127 : decode cX3_follow 127 = .ok (.iload 4, 2) := by decide +kernel
theorem dX3_follow_129 : decode cX3_follow 129 = .ok (.iconst 1, 1) := by decide +kernel
theorem dX3_follow_130 : decode cX3_follow 130 = .ok (.iadd, 1) := by decide +kernel
theorem dX3_follow_131 : decode cX3_follow 131 = .ok (.iload 5, 2) := by decide +kernel
theorem dX3_follow_133 : decode cX3_follow 133 = .ok (.iconst 1, 1) := by decide +kernel
theorem dX3_follow_134 : decode cX3_follow 134 = .ok (.iload 8, 2) := by decide +kernel
theorem dX3_follow_136 : decode cX3_follow 136 = .ok (.ishl, 1) := by decide +kernel
theorem dX3_follow_137 : decode cX3_follow 137 = .ok (.ior, 1) := by decide +kernel
theorem dX3_follow_138 : decode cX3_follow 138 = .ok (.iload 6, 2) := by decide +kernel
theorem dX3_follow_140 : decode cX3_follow 140 = .ok (.iload 9, 2) := by decide +kernel
theorem dX3_follow_142 : decode cX3_follow 142 = .ok (.iadd, 1) := by decide +kernel
theorem dX3_follow_143 : decode cX3_follow 143 = .ok (.invokevirtual 44, 3) := by decide +kernel
theorem dX3_follow_146 : decode cX3_follow 146 = .ok (.iinc 8 1, 3) := by decide +kernel
theorem dX3_follow_149 : decode cX3_follow 149 = .ok (.goto (-104), 3) := by decide +kernel
theorem dX3_follow_152 : decode cX3_follow 152 = .ok (.return_, 1) := by decide +kernel
theorem dX3_weigh_0 : decode cX3_weigh 0 = .ok (.iload_n 1, 1) := by decide +kernel
theorem dX3_weigh_1 : decode cX3_weigh 1 = .ok (.aload_n 0, 1) := by decide +kernel
theorem dX3_weigh_2 : decode cX3_weigh 2 = .ok (.getfield 32, 3) := by decide +kernel
theorem dX3_weigh_5 : decode cX3_weigh 5 = .ok (.if_icmp .le 25, 3) := by decide +kernel
theorem dX3_weigh_8 : decode cX3_weigh 8 = .ok (.aload_n 0, 1) := by decide +kernel
theorem dX3_weigh_9 : decode cX3_weigh 9 = .ok (.iload_n 1, 1) := by decide +kernel
theorem dX3_weigh_10 : decode cX3_weigh 10 = .ok (.putfield 32, 3) := by decide +kernel
theorem dX3_weigh_13 : decode cX3_weigh 13 = .ok (.aload_n 0, 1) := by decide +kernel
theorem dX3_weigh_14 : decode cX3_weigh 14 = .ok (.getfield 9, 3) := by decide +kernel
theorem dX3_weigh_17 : decode cX3_weigh 17 = .ok (.iconst 0, 1) := by decide +kernel
theorem dX3_weigh_18 : decode cX3_weigh 18 = .ok (.aload_n 0, 1) := by decide +kernel
theorem dX3_weigh_19 : decode cX3_weigh 19 = .ok (.getfield 15, 3) := by decide +kernel
theorem dX3_weigh_22 : decode cX3_weigh 22 = .ok (.iconst 0, 1) := by decide +kernel
theorem dX3_weigh_23 : decode cX3_weigh 23 = .ok (.aload_n 0, 1) := by decide +kernel
theorem dX3_weigh_24 : decode cX3_weigh 24 = .ok (.getfield 28, 3) := by decide +kernel
theorem dX3_weigh_27 : decode cX3_weigh 27 = .ok (.invokestatic 73, 3) := by decide +kernel
theorem dX3_weigh_30 : decode cX3_weigh 30 = .ok (.return_, 1) := by decide +kernel
theorem dX4_init_0 : decode cX4_init 0 = .ok (.aload_n 0, 1) := by decide +kernel
theorem dX4_init_1 : decode cX4_init 1 = .ok (.invokespecial 3, 3) := by decide +kernel
theorem dX4_init_4 : decode cX4_init 4 = .ok (.aload_n 0, 1) := by decide +kernel
theorem dX4_init_5 : decode cX4_init 5 = .ok (.bipush 6, 2) := by decide +kernel
theorem dX4_init_7 : decode cX4_init 7 = .ok (.newarray .int, 2) := by decide +kernel
theorem dX4_init_9 : decode cX4_init 9 = .ok (.putfield 9, 3) := by decide +kernel
theorem dX4_init_12 : decode cX4_init 12 = .ok (.aload_n 0, 1) := by decide +kernel
theorem dX4_init_13 : decode cX4_init 13 = .ok (.bipush 6, 2) := by decide +kernel
theorem dX4_init_15 : decode cX4_init 15 = .ok (.newarray .int, 2) := by decide +kernel
theorem dX4_init_17 : decode cX4_init 17 = .ok (.putfield 15, 3) := by decide +kernel
theorem dX4_init_20 : decode cX4_init 20 = .ok (.aload_n 0, 1) := by decide +kernel
theorem dX4_init_21 : decode cX4_init 21 = .ok (.iconst 5, 1) := by decide +kernel
theorem dX4_init_22 : decode cX4_init 22 = .ok (.newarray .int, 2) := by decide +kernel
theorem dX4_init_24 : decode cX4_init 24 = .ok (.putfield 18, 3) := by decide +kernel
theorem dX4_init_27 : decode cX4_init 27 = .ok (.aload_n 0, 1) := by decide +kernel
theorem dX4_init_28 : decode cX4_init 28 = .ok (.iconst 5, 1) := by decide +kernel
theorem dX4_init_29 : decode cX4_init 29 = .ok (.newarray .int, 2) := by decide +kernel
theorem dX4_init_31 : decode cX4_init 31 = .ok (.putfield 21, 3) := by decide +kernel
theorem dX4_init_34 : decode cX4_init 34 = .ok (.return_, 1) := by decide +kernel
set_option maxRecDepth 20000 in
theorem ggX4_plan_X4_fatesOf : GoodIn wsX4_plan wsX4_fatesOf := goodIn_r _ [10, 6, 11, 12, 13, 14, 15, 16, 17, 18, 19, 20, 21, 22, 23, 24, 25, 26, 27, 28, 29, 30, 31, 32, 33, 34, 35, 36, 37, 38, 39, 40, 41, 42, 43, 44, 45, 46, 47, 48, 49, 50, 51, 52, 53, 54, 55, 56, 57, 58, 59, 60, 61, 62, 63, 64, 65, 66, 67, 68, 69, 70, 71, 72, 90, 91, 92, 93, 94, 95, 96, 97, 98, 99, 100, 101] (by decide +kernel) (by decide +kernel)
set_option maxRecDepth 20000 in
theorem gX4_plan_X4_fatesOf : GoodIn wsX4_plan (va_wsS RX4 33 yX4_fatesOf wsX4_fatesOf) := goodIn_app (goodIn_of _ (by decide +kernel)) ggX4_plan_X4_fatesOf
set_option maxRecDepth 20000 in
theorem ggX4_plan_X4_choose : GoodIn wsX4_plan wsX4_choose := goodIn_r _ [76, 5, 1, 77, 4, 78, 79, 80, 9, 81, 3, 82, 83, 23, 24, 25, 73, 74, 75, 84, 85, 86, 87, 88, 89] (by decide +kernel) (by decide +kernel)
set_option maxRecDepth 20000 in
theorem gX4_plan_X4_choose : GoodIn wsX4_plan (wsV RX4 43 RX4 yX4_choose wsX4_choose) := goodIn_app (goodIn_of _ (by decide +kernel)) ggX4_plan_X4_choose
theorem dX4_plan_0 : decode cX4_plan 0 = .ok (.aload_n 0, 1) := by decide +kernel
theorem dX4_plan_1 : decode cX4_plan 1 = .ok (.iconst 0, 1) := by decide +kernel
theorem dX4_plan_2 : decode cX4_plan 2 = .ok (.putfield 24, 3) := by decide +kernel
theorem dX4_plan_5 : decode cX4_plan 5 = .ok (.iconst 0, 1) := by decide +kernel
theorem dX4_plan_6 : decode cX4_plan 6 = .ok (.istore 4, 2) := by decide +kernel
theorem dX4_plan_8 : decode cX4_plan 8 = .ok (.iload 4, 2) := by decide +kernel
theorem dX4_plan_10 : decode cX4_plan 10 = .ok (.aload_n 1, 1) := by decide +kernel
theorem dX4_plan_11 : decode cX4_plan 11 = .ok (.getfield 28, 3) := by decide +kernel
theorem dX4_plan_14 : decode cX4_plan 14 = .ok (.if_icmp .ge 56, 3) := by decide +kernel
theorem dX4_plan_17 : decode cX4_plan 17 = .ok (.aload_n 0, 1) := by decide +kernel
theorem dX4_plan_18 : decode cX4_plan 18 = .ok (.getfield 9, 3) := by decide +kernel
theorem dX4_plan_21 : decode cX4_plan 21 = .ok (.iload 4, 2) := by decide +kernel
theorem dX4_plan_23 : decode cX4_plan 23 = .ok (.aload_n 1, 1) := by decide +kernel
theorem dX4_plan_24 : decode cX4_plan 24 = .ok (.aload_n 2, 1) := by decide +kernel
theorem dX4_plan_25 : decode cX4_plan 25 = .ok (.iload 4, 2) := by decide +kernel
theorem dX4_plan_27 : decode cX4_plan 27 = .ok (.iload_n 3, 1) := by decide +kernel
theorem dX4_plan_28 : decode cX4_plan 28 = .ok (.invokestatic 33, 3) := by decide +kernel
theorem dX4_plan_31 : decode cX4_plan 31 = .ok (.iastore, 1) := by decide +kernel
theorem dX4_plan_32 : decode cX4_plan 32 = .ok (.aload_n 0, 1) := by decide +kernel
theorem dX4_plan_33 : decode cX4_plan 33 = .ok (.getfield 15, 3) := by decide +kernel
theorem dX4_plan_36 : decode cX4_plan 36 = .ok (.iload 4, 2) := by decide +kernel
theorem dX4_plan_38 : decode cX4_plan 38 = .ok (.iconst 0, 1) := by decide +kernel
theorem dX4_plan_39 : decode cX4_plan 39 = .ok (.iastore, 1) := by decide +kernel
theorem dX4_plan_40 : decode cX4_plan 40 = .ok (.aload_n 0, 1) := by decide +kernel
theorem dX4_plan_41 : decode cX4_plan 41 = .ok (.dup, 1) := by decide +kernel
theorem dX4_plan_42 : decode cX4_plan 42 = .ok (.getfield 24, 3) := by decide +kernel
theorem dX4_plan_45 : decode cX4_plan 45 = .ok (.aload_n 0, 1) := by decide +kernel
theorem dX4_plan_46 : decode cX4_plan 46 = .ok (.getfield 9, 3) := by decide +kernel
theorem dX4_plan_49 : decode cX4_plan 49 = .ok (.iload 4, 2) := by decide +kernel
theorem dX4_plan_51 : decode cX4_plan 51 = .ok (.iaload, 1) := by decide +kernel
theorem dX4_plan_52 : decode cX4_plan 52 = .ok (.ifCond .ne 7, 3) := by decide +kernel
theorem dX4_plan_55 : decode cX4_plan 55 = .ok (.iconst 0, 1) := by decide +kernel
theorem dX4_plan_56 : decode cX4_plan 56 = .ok (.goto 4, 3) := by decide +kernel
theorem dX4_plan_59 : decode cX4_plan 59 = .ok (.iconst 1, 1) := by decide +kernel
theorem dX4_plan_60 : decode cX4_plan 60 = .ok (.iadd, 1) := by decide +kernel
theorem dX4_plan_61 : decode cX4_plan 61 = .ok (.putfield 24, 3) := by decide +kernel
theorem dX4_plan_64 : decode cX4_plan 64 = .ok (.iinc 4 1, 3) := by decide +kernel
theorem dX4_plan_67 : decode cX4_plan 67 = .ok (.goto (-59), 3) := by decide +kernel
theorem dX4_plan_70 : decode cX4_plan 70 = .ok (.aload_n 0, 1) := by decide +kernel
theorem dX4_plan_71 : decode cX4_plan 71 = .ok (.iconst (-1), 1) := by decide +kernel
theorem dX4_plan_72 : decode cX4_plan 72 = .ok (.putfield 37, 3) := by decide +kernel
theorem dX4_plan_75 : decode cX4_plan 75 = .ok (.aload_n 0, 1) := by decide +kernel
theorem dX4_plan_76 : decode cX4_plan 76 = .ok (.aload_n 1, 1) := by decide +kernel
theorem dX4_plan_77 : decode cX4_plan 77 = .ok (.getfield 28, 3) := by decide +kernel
theorem dX4_plan_80 : decode cX4_plan 80 = .ok (.aload_n 1, 1) := by decide +kernel
theorem dX4_plan_81 : decode cX4_plan 81 = .ok (.getfield 40, 3) := by decide +kernel
theorem dX4_plan_84 : decode cX4_plan 84 = .ok (.iconst 0, 1) := by decide +kernel
theorem dX4_plan_85 : decode cX4_plan 85 = .ok (.invokevirtual 43, 3) := by decide +kernel
theorem dX4_plan_88 : decode cX4_plan 88 = .ok (.return_, 1) := by decide +kernel
set_option maxRecDepth 20000 in
theorem ggX4_fatesOf_X2_become : GoodIn wsX4_fatesOf wsX2_become := goodIn_r _ [6, 7, 8, 9, 10, 11, 12, 13, 14, 15, 16, 17, 18, 19, 20, 21, 22, 64, 65, 66, 67, 68, 69, 70, 71, 72, 73, 74, 75] (by decide +kernel) (by decide +kernel)
set_option maxRecDepth 20000 in
theorem gX4_fatesOf_X2_become : GoodIn wsX4_fatesOf (wsV RX4 47 RX2 yX2_become wsX2_become) := goodIn_app (goodIn_of _ (by decide +kernel)) ggX4_fatesOf_X2_become
set_option maxRecDepth 20000 in
theorem ggX4_fatesOf_X2_crewRubs : GoodIn wsX4_fatesOf wsX2_crewRubs := goodIn_r _ [26, 8, 27, 28, 29, 5, 30, 21, 31, 32, 33, 34, 35, 36, 37, 38, 12, 18, 39, 40, 41, 42, 19, 43, 44, 45, 46, 20, 47, 48, 49, 50, 17, 51, 52, 53, 10, 54, 55, 56, 57, 58, 59, 60, 61, 62, 64, 65, 66, 67, 68, 69, 70, 71, 72, 73, 74, 75] (by decide +kernel) (by decide +kernel)
set_option maxRecDepth 20000 in
theorem gX4_fatesOf_X2_crewRubs : GoodIn wsX4_fatesOf (wsV RX4 51 RX2 yX2_crewRubs wsX2_crewRubs) := goodIn_app (goodIn_of _ (by decide +kernel)) ggX4_fatesOf_X2_crewRubs
set_option maxRecDepth 20000 in
theorem ggX4_fatesOf_X2_isGone : GoodIn wsX4_fatesOf wsX2_isGone := goodIn_r _ [38, 12, 18, 64, 65, 66, 67, 68, 69, 70, 71, 72, 73, 74, 75] (by decide +kernel) (by decide +kernel)
set_option maxRecDepth 20000 in
theorem gX4_fatesOf_X2_isGone : GoodIn wsX4_fatesOf (wsV RX4 55 RX2 yX2_isGone wsX2_isGone) := goodIn_app (goodIn_of _ (by decide +kernel)) ggX4_fatesOf_X2_isGone
theorem dX4_fatesOf_0 : decode cX4_fatesOf 0 = .ok (.iconst 1, 1) := by decide +kernel
theorem dX4_fatesOf_1 : decode cX4_fatesOf 1 = .ok (.aload_n 0, 1) := by decide +kernel
theorem dX4_fatesOf_2 : decode cX4_fatesOf 2 = .ok (.getfield 40, 3) := by decide +kernel
theorem dX4_fatesOf_5 : decode cX4_fatesOf 5 = .ok (.ishl, 1) := by decide +kernel
theorem dX4_fatesOf_6 : decode cX4_fatesOf 6 = .ok (.istore 4, 2) := by decide +kernel
theorem dX4_fatesOf_8 : decode cX4_fatesOf 8 = .ok (.iconst 0, 1) := by decide +kernel
theorem dX4_fatesOf_9 : decode cX4_fatesOf 9 = .ok (.istore 5, 2) := by decide +kernel
theorem dX4_fatesOf_11 : decode cX4_fatesOf 11 = .ok (.iconst 0, 1) := by decide +kernel
theorem dX4_fatesOf_12 : decode cX4_fatesOf 12 = .ok (.istore 6, 2) := by decide +kernel
theorem dX4_fatesOf_14 : decode cX4_fatesOf 14 = .ok (.iload 6, 2) := by decide +kernel
theorem dX4_fatesOf_16 : decode cX4_fatesOf 16 = .ok (.iload 4, 2) := by decide +kernel
theorem dX4_fatesOf_18 : decode cX4_fatesOf 18 = .ok (.if_icmp .ge 63, 3) := by decide +kernel
theorem dX4_fatesOf_21 : decode cX4_fatesOf 21 = .ok (.aload_n 1, 1) := by decide +kernel
theorem dX4_fatesOf_22 : decode cX4_fatesOf 22 = .ok (.aload_n 0, 1) := by decide +kernel
theorem dX4_fatesOf_23 : decode cX4_fatesOf 23 = .ok (.invokevirtual 47, 3) := by decide +kernel
theorem dX4_fatesOf_26 : decode cX4_fatesOf 26 = .ok (.iconst 1, 1) := by decide +kernel
theorem dX4_fatesOf_27 : decode cX4_fatesOf 27 = .ok (.istore 7, 2) := by decide +kernel
theorem dX4_fatesOf_29 : decode cX4_fatesOf 29 = .ok (.iconst 0, 1) := by decide +kernel
theorem dX4_fatesOf_30 : decode cX4_fatesOf 30 = .ok (.istore 8, 2) := by decide +kernel
theorem dX4_fatesOf_32 : decode cX4_fatesOf 32 = .ok (.iload 8, 2) := by decide +kernel
theorem dX4_fatesOf_34 : decode cX4_fatesOf 34 = .ok (.iload_n 3, 1) := by decide +kernel
theorem dX4_fatesOf_35 : decode cX4_fatesOf 35 = .ok (.if_icmp .ge 23, 3) := by decide +kernel
theorem dX4_fatesOf_38 : decode cX4_fatesOf 38 = .ok (.iload 7, 2) := by decide +kernel
theorem dX4_fatesOf_40 : decode cX4_fatesOf 40 = .ok (.ifCond .eq 18, 3) := by decide +kernel
theorem dX4_fatesOf_43 : decode cX4_fatesOf 43 = .ok (.aload_n 1, 1) := by decide +kernel
theorem dX4_fatesOf_44 : decode cX4_fatesOf 44 = .ok (.iload 6, 2) := by decide +kernel
theorem dX4_fatesOf_46 : decode cX4_fatesOf 46 = .ok (.iload_n 2, 1) := by decide +kernel
theorem dX4_fatesOf_47 : decode cX4_fatesOf 47 = .ok (.invokevirtual 51, 3) := by decide +kernel
theorem dX4_fatesOf_50 : decode cX4_fatesOf 50 = .ok (.istore 7, 2) := by decide +kernel
theorem dX4_fatesOf_52 : decode cX4_fatesOf 52 = .ok (.iinc 8 1, 3) := by decide +kernel
theorem dX4_fatesOf_55 : decode cX4_fatesOf 55 = .ok (.goto (-23), 3) := by decide +kernel
theorem dX4_fatesOf_58 : decode cX4_fatesOf 58 = .ok (.aload_n 1, 1) := by decide +kernel
theorem dX4_fatesOf_59 : decode cX4_fatesOf 59 = .ok (.iload_n 2, 1) := by decide +kernel
theorem dX4_fatesOf_60 : decode cX4_fatesOf 60 = .ok (.invokevirtual 55, 3) := by decide +kernel
theorem dX4_fatesOf_63 : decode cX4_fatesOf 63 = .ok (.ifCond .eq 12, 3) := by decide +kernel
theorem dX4_fatesOf_66 : decode cX4_fatesOf 66 = .ok (.iload 5, 2) := by decide +kernel
theorem dX4_fatesOf_68 : decode cX4_fatesOf 68 = .ok (.iconst 1, 1) := by decide +kernel
theorem dX4_fatesOf_69 : decode cX4_fatesOf 69 = .ok (.iload 6, 2) := by decide +kernel
theorem dX4_fatesOf_71 : decode cX4_fatesOf 71 = .ok (.ishl, 1) := by decide +kernel
theorem dX4_fatesOf_72 : decode cX4_fatesOf 72 = .ok (.ior, 1) := by decide +kernel
theorem dX4_fatesOf_73 : decode cX4_fatesOf 73 = .ok (.istore 5, 2) := by decide +kernel
theorem dX4_fatesOf_75 : decode cX4_fatesOf 75 = .ok (.iinc 6 1, 3) := by decide +kernel
theorem dX4_fatesOf_78 : decode cX4_fatesOf 78 = .ok (.goto (-64), 3) := by decide +kernel
theorem dX4_fatesOf_81 : decode cX4_fatesOf 81 = .ok (.iload 5, 2) := by decide +kernel
theorem dX4_fatesOf_83 : decode cX4_fatesOf 83 = .ok (.ireturn, 1) := by decide +kernel
set_option maxRecDepth 20000 in
theorem ggX4_choose_X4_weigh : GoodIn wsX4_choose wsX4_weigh := goodIn_r _ [9, 10, 4, 1, 3, 11, 12, 13, 14, 15, 19, 20, 21, 22, 23, 24] (by decide +kernel) (by decide +kernel)
set_option maxRecDepth 20000 in
theorem gX4_choose_X4_weigh : GoodIn wsX4_choose (wsV RX4 59 RX4 yX4_weigh wsX4_weigh) := goodIn_app (goodIn_of _ (by decide +kernel)) ggX4_choose_X4_weigh
set_option maxRecDepth 20000 in
theorem ggX4_choose_X4_choose : GoodIn wsX4_choose wsX4_choose := goodIn_r _ [0, 1, 2, 3, 4, 5, 6, 7, 8, 9, 10, 11, 12, 13, 14, 15, 16, 17, 18, 19, 20, 21, 22, 23, 24] (by decide +kernel) (by decide +kernel)
set_option maxRecDepth 20000 in
theorem gX4_choose_X4_choose : GoodIn wsX4_choose (wsV RX4 43 RX4 yX4_choose wsX4_choose) := goodIn_app (goodIn_of _ (by decide +kernel)) ggX4_choose_X4_choose
theorem dX4_choose_0 : decode cX4_choose 0 = .ok (.iload_n 3, 1) := by decide +kernel
theorem dX4_choose_1 : decode cX4_choose 1 = .ok (.iload_n 2, 1) := by decide +kernel
theorem dX4_choose_2 : decode cX4_choose 2 = .ok (.if_icmp .lt 10, 3) := by decide +kernel
theorem dX4_choose_5 : decode cX4_choose 5 = .ok (.aload_n 0, 1) := by decide +kernel
theorem dX4_choose_6 : decode cX4_choose 6 = .ok (.iload_n 1, 1) := by decide +kernel
theorem dX4_choose_7 : decode cX4_choose 7 = .ok (.iload_n 2, 1) := by decide +kernel
theorem dX4_choose_8 : decode cX4_choose 8 = .ok (.invokevirtual 59, 3) := by decide +kernel
theorem dX4_choose_11 : decode cX4_choose 11 = .ok (.return_, 1) := by decide +kernel
theorem dX4_choose_12 : decode cX4_choose 12 = .ok (.iconst 1, 1) := by decide +kernel
theorem dX4_choose_13 : decode cX4_choose 13 = .ok (.iload_n 3, 1) := by decide +kernel
theorem dX4_choose_14 : decode cX4_choose 14 = .ok (.ishl, 1) := by decide +kernel
theorem dX4_choose_15 : decode cX4_choose 15 = .ok (.istore 4, 2) := by decide +kernel
theorem dX4_choose_17 : decode cX4_choose 17 = .ok (.iconst 0, 1) := by decide +kernel
theorem dX4_choose_18 : decode cX4_choose 18 = .ok (.istore 5, 2) := by decide +kernel
theorem dX4_choose_20 : decode cX4_choose 20 = .ok (.iload 5, 2) := by decide +kernel
theorem dX4_choose_22 : decode cX4_choose 22 = .ok (.iload_n 1, 1) := by decide +kernel
theorem dX4_choose_23 : decode cX4_choose 23 = .ok (.if_icmp .ge 63, 3) := by decide +kernel
theorem dX4_choose_26 : decode cX4_choose 26 = .ok (.aload_n 0, 1) := by decide +kernel
theorem dX4_choose_27 : decode cX4_choose 27 = .ok (.getfield 37, 3) := by decide +kernel
theorem dX4_choose_30 : decode cX4_choose 30 = .ok (.aload_n 0, 1) := by decide +kernel
theorem dX4_choose_31 : decode cX4_choose 31 = .ok (.getfield 24, 3) := by decide +kernel
theorem dX4_choose_34 : decode cX4_choose 34 = .ok (.if_icmp .ge 52, 3) := by decide +kernel
theorem dX4_choose_37 : decode cX4_choose 37 = .ok (.aload_n 0, 1) := by decide +kernel
theorem dX4_choose_38 : decode cX4_choose 38 = .ok (.getfield 18, 3) := by decide +kernel
theorem dX4_choose_41 : decode cX4_choose 41 = .ok (.iload_n 3, 1) := by decide +kernel
theorem dX4_choose_42 : decode cX4_choose 42 = .ok (.iload 5, 2) := by decide +kernel
theorem dX4_choose_44 : decode cX4_choose 44 = .ok (.iastore, 1) := by decide +kernel
theorem dX4_choose_45 : decode cX4_choose 45 = .ok (.aload_n 0, 1) := by decide +kernel
theorem dX4_choose_46 : decode cX4_choose 46 = .ok (.getfield 15, 3) := by decide +kernel
theorem dX4_choose_49 : decode cX4_choose 49 = .ok (.iload 5, 2) := by decide +kernel
theorem dX4_choose_51 : decode cX4_choose 51 = .ok (.dup2, 1) := by decide +kernel
theorem dX4_choose_52 : decode cX4_choose 52 = .ok (.iaload, 1) := by decide +kernel
theorem dX4_choose_53 : decode cX4_choose 53 = .ok (.iload 4, 2) := by decide +kernel
theorem dX4_choose_55 : decode cX4_choose 55 = .ok (.ior, 1) := by decide +kernel
theorem dX4_choose_56 : decode cX4_choose 56 = .ok (.iastore, 1) := by decide +kernel
theorem dX4_choose_57 : decode cX4_choose 57 = .ok (.aload_n 0, 1) := by decide +kernel
theorem dX4_choose_58 : decode cX4_choose 58 = .ok (.iload_n 1, 1) := by decide +kernel
theorem dX4_choose_59 : decode cX4_choose 59 = .ok (.iload_n 2, 1) := by decide +kernel
theorem dX4_choose_60 : decode cX4_choose 60 = .ok (.iload_n 3, 1) := by decide +kernel
theorem dX4_choose_61 : decode cX4_choose 61 = .ok (.iconst 1, 1) := by decide +kernel
theorem dX4_choose_62 : decode cX4_choose 62 = .ok (.iadd, 1) := by decide +kernel
theorem dX4_choose_63 : decode cX4_choose 63 = .ok (.invokevirtual 43, 3) := by decide +kernel
theorem dX4_choose_66 : decode cX4_choose 66 = .ok (.aload_n 0, 1) := by decide +kernel
theorem dX4_choose_67 : decode cX4_choose 67 = .ok (.getfield 15, 3) := by decide +kernel
theorem dX4_choose_70 : decode cX4_choose 70 = .ok (.iload 5, 2) := by decide +kernel
theorem dX4_choose_72 : decode cX4_choose 72 = .ok (.dup2, 1) := by decide +kernel
theorem dX4_choose_73 : decode cX4_choose 73 = .ok (.iaload, 1) := by decide +kernel
theorem dX4_choose_74 : decode cX4_choose 74 = .ok (.iload 4, 2) := by decide +kernel
theorem dX4_choose_76 : decode cX4_choose 76 = .ok (.iconst (-1), 1) := by decide +kernel
theorem dX4_choose_77 : decode cX4_choose 77 = .ok (.ixor, 1) := by decide +kernel
theorem dX4_choose_78 : decode cX4_choose 78 = .ok (.iand, 1) := by decide +kernel
theorem dX4_choose_79 : decode cX4_choose 79 = .ok (.iastore, 1) := by decide +kernel
theorem dX4_choose_80 : decode cX4_choose 80 = .ok (.iinc 5 1, 3) := by decide +kernel
theorem dX4_choose_83 : decode cX4_choose 83 = .ok (.goto (-63), 3) := by decide +kernel
theorem dX4_choose_86 : decode cX4_choose 86 = .ok (.return_, 1) := by decide +kernel
theorem dX4_weigh_0 : decode cX4_weigh 0 = .ok (.iconst 0, 1) := by decide +kernel
theorem dX4_weigh_1 : decode cX4_weigh 1 = .ok (.istore_n 3, 1) := by decide +kernel
theorem dX4_weigh_2 : decode cX4_weigh 2 = .ok (.iconst 0, 1) := by decide +kernel
theorem dX4_weigh_3 : decode cX4_weigh 3 = .ok (.istore 4, 2) := by decide +kernel
theorem dX4_weigh_5 : decode cX4_weigh 5 = .ok (.iload 4, 2) := by decide +kernel
theorem dX4_weigh_7 : decode cX4_weigh 7 = .ok (.iload_n 1, 1) := by decide +kernel
theorem dX4_weigh_8 : decode cX4_weigh 8 = .ok (.if_icmp .ge 29, 3) := by decide +kernel
theorem dX4_weigh_11 : decode cX4_weigh 11 = .ok (.iload_n 3, 1) := by decide +kernel
theorem dX4_weigh_12 : decode cX4_weigh 12 = .ok (.aload_n 0, 1) := by decide +kernel
theorem dX4_weigh_13 : decode cX4_weigh 13 = .ok (.getfield 9, 3) := by decide +kernel
theorem dX4_weigh_16 : decode cX4_weigh 16 = .ok (.iload 4, 2) := by decide +kernel
theorem dX4_weigh_18 : decode cX4_weigh 18 = .ok (.iaload, 1) := by decide +kernel
theorem dX4_weigh_19 : decode cX4_weigh 19 = .ok (.aload_n 0, 1) := by decide +kernel
theorem dX4_weigh_20 : decode cX4_weigh 20 = .ok (.getfield 15, 3) := by decide +kernel
theorem dX4_weigh_23 : decode cX4_weigh 23 = .ok (.iload 4, 2) := by decide +kernel
theorem dX4_weigh_25 : decode cX4_weigh 25 = .ok (.iaload, 1) := by decide +kernel
theorem dX4_weigh_26 : decode cX4_weigh 26 = .ok (.iushr, 1) := by decide +kernel
theorem dX4_weigh_27 : decode cX4_weigh 27 = .ok (.iconst 1, 1) := by decide +kernel
theorem dX4_weigh_28 : decode cX4_weigh 28 = .ok (.iand, 1) := by decide +kernel
theorem dX4_weigh_29 : decode cX4_weigh 29 = .ok (.iadd, 1) := by decide +kernel
theorem dX4_weigh_30 : decode cX4_weigh 30 = .ok (.istore_n 3, 1) := by decide +kernel
theorem dX4_weigh_31 : decode cX4_weigh 31 = .ok (.iinc 4 1, 3) := by decide +kernel
theorem dX4_weigh_34 : decode cX4_weigh 34 = .ok (.goto (-29), 3) := by decide +kernel
theorem dX4_weigh_37 : decode cX4_weigh 37 = .ok (.iload_n 3, 1) := by decide +kernel
theorem dX4_weigh_38 : decode cX4_weigh 38 = .ok (.aload_n 0, 1) := by decide +kernel
theorem dX4_weigh_39 : decode cX4_weigh 39 = .ok (.getfield 37, 3) := by decide +kernel
theorem dX4_weigh_42 : decode cX4_weigh 42 = .ok (.if_icmp .le 22, 3) := by decide +kernel
theorem dX4_weigh_45 : decode cX4_weigh 45 = .ok (.aload_n 0, 1) := by decide +kernel
theorem dX4_weigh_46 : decode cX4_weigh 46 = .ok (.iload_n 3, 1) := by decide +kernel
theorem dX4_weigh_47 : decode cX4_weigh 47 = .ok (.putfield 37, 3) := by decide +kernel
theorem dX4_weigh_50 : decode cX4_weigh 50 = .ok (.aload_n 0, 1) := by decide +kernel
theorem dX4_weigh_51 : decode cX4_weigh 51 = .ok (.getfield 18, 3) := by decide +kernel
theorem dX4_weigh_54 : decode cX4_weigh 54 = .ok (.iconst 0, 1) := by decide +kernel
theorem dX4_weigh_55 : decode cX4_weigh 55 = .ok (.aload_n 0, 1) := by decide +kernel
theorem dX4_weigh_56 : decode cX4_weigh 56 = .ok (.getfield 21, 3) := by decide +kernel
theorem dX4_weigh_59 : decode cX4_weigh 59 = .ok (.iconst 0, 1) := by decide +kernel
theorem dX4_weigh_60 : decode cX4_weigh 60 = .ok (.iload_n 2, 1) := by decide +kernel
theorem dX4_weigh_61 : decode cX4_weigh 61 = .ok (.invokestatic 63, 3) := by decide +kernel
theorem dX4_weigh_64 : decode cX4_weigh 64 = .ok (.return_, 1) := by decide +kernel
theorem dX5_init_0 : decode cX5_init 0 = .ok (.aload_n 0, 1) := by decide +kernel
theorem dX5_init_1 : decode cX5_init 1 = .ok (.invokespecial 3, 3) := by decide +kernel
theorem dX5_init_4 : decode cX5_init 4 = .ok (.aload_n 0, 1) := by decide +kernel
theorem dX5_init_5 : decode cX5_init 5 = .ok (.bipush 24, 2) := by decide +kernel
theorem dX5_init_7 : decode cX5_init 7 = .ok (.newarray .long, 2) := by decide +kernel
theorem dX5_init_9 : decode cX5_init 9 = .ok (.putfield 9, 3) := by decide +kernel
theorem dX5_init_12 : decode cX5_init 12 = .ok (.return_, 1) := by decide +kernel
theorem dX5_hold_0 : decode cX5_hold 0 = .ok (.aload_n 0, 1) := by decide +kernel
theorem dX5_hold_1 : decode cX5_hold 1 = .ok (.iconst 1, 1) := by decide +kernel
theorem dX5_hold_2 : decode cX5_hold 2 = .ok (.putfield 15, 3) := by decide +kernel
theorem dX5_hold_5 : decode cX5_hold 5 = .ok (.aload_n 0, 1) := by decide +kernel
theorem dX5_hold_6 : decode cX5_hold 6 = .ok (.iload_n 1, 1) := by decide +kernel
theorem dX5_hold_7 : decode cX5_hold 7 = .ok (.putfield 19, 3) := by decide +kernel
theorem dX5_hold_10 : decode cX5_hold 10 = .ok (.aload_n 0, 1) := by decide +kernel
theorem dX5_hold_11 : decode cX5_hold 11 = .ok (.iload_n 2, 1) := by decide +kernel
theorem dX5_hold_12 : decode cX5_hold 12 = .ok (.putfield 23, 3) := by decide +kernel
theorem dX5_hold_15 : decode cX5_hold 15 = .ok (.iconst 0, 1) := by decide +kernel
theorem dX5_hold_16 : decode cX5_hold 16 = .ok (.istore_n 3, 1) := by decide +kernel
theorem dX5_hold_17 : decode cX5_hold 17 = .ok (.iload_n 3, 1) := by decide +kernel
theorem dX5_hold_18 : decode cX5_hold 18 = .ok (.bipush 24, 2) := by decide +kernel
theorem dX5_hold_20 : decode cX5_hold 20 = .ok (.if_icmp .ge 16, 3) := by decide +kernel
theorem dX5_hold_23 : decode cX5_hold 23 = .ok (.aload_n 0, 1) := by decide +kernel
theorem dX5_hold_24 : decode cX5_hold 24 = .ok (.getfield 9, 3) := by decide +kernel
theorem dX5_hold_27 : decode cX5_hold 27 = .ok (.iload_n 3, 1) := by decide +kernel
theorem dX5_hold_28 : decode cX5_hold 28 = .ok (.lconst 0, 1) := by decide +kernel
theorem dX5_hold_29 : decode cX5_hold 29 = .ok (.lastore, 1) := by decide +kernel
theorem dX5_hold_30 : decode cX5_hold 30 = .ok (.iinc 3 1, 3) := by decide +kernel
theorem dX5_hold_33 : decode cX5_hold 33 = .ok (.goto (-16), 3) := by decide +kernel
theorem dX5_hold_36 : decode cX5_hold 36 = .ok (.return_, 1) := by decide +kernel
theorem dX5_spans_0 : decode cX5_spans 0 = .ok (.iload_n 1, 1) := by decide +kernel
theorem dX5_spans_1 : decode cX5_spans 1 = .ok (.ifCond .lt 21, 3) := by decide +kernel
theorem dX5_spans_4 : decode cX5_spans 4 = .ok (.iload_n 2, 1) := by decide +kernel
theorem dX5_spans_5 : decode cX5_spans 5 = .ok (.ifCond .lt 17, 3) := by decide +kernel
theorem dX5_spans_8 : decode cX5_spans 8 = .ok (.iload_n 1, 1) := by decide +kernel
theorem dX5_spans_9 : decode cX5_spans 9 = .ok (.aload_n 0, 1) := by decide +kernel
theorem dX5_spans_10 : decode cX5_spans 10 = .ok (.getfield 23, 3) := by decide +kernel
theorem dX5_spans_13 : decode cX5_spans 13 = .ok (.iload_n 2, 1) := by decide +kernel
theorem dX5_spans_14 : decode cX5_spans 14 = .ok (.isub, 1) := by decide +kernel
theorem dX5_spans_15 : decode cX5_spans 15 = .ok (.if_icmp .gt 7, 3) := by decide +kernel
theorem dX5_spans_18 : decode cX5_spans 18 = .ok (.iconst 1, 1) := by decide +kernel
theorem dX5_spans_19 : decode cX5_spans 19 = .ok (.goto 4, 3) := by decide +kernel
theorem dX5_spans_22 : decode cX5_spans 22 = .ok (.iconst 0, 1) := by decide +kernel
theorem dX5_spans_23 : decode cX5_spans 23 = .ok (.ireturn, 1) := by decide +kernel
theorem dX5_write_0 : decode cX5_write 0 = .ok (.aload_n 0, 1) := by decide +kernel
theorem dX5_write_1 : decode cX5_write 1 = .ok (.getfield 19, 3) := by decide +kernel
theorem dX5_write_4 : decode cX5_write 4 = .ok (.tableswitch 66 0 2 #[28, 41, 54], 28) := by decide +kernel
theorem dX5_write_32 : decode cX5_write 32 = .ok (.aload_n 0, 1) := by decide +kernel
theorem dX5_write_33 : decode cX5_write 33 = .ok (.getfield 9, 3) := by decide +kernel
theorem dX5_write_36 : decode cX5_write 36 = .ok (.iload_n 1, 1) := by decide +kernel
theorem dX5_write_37 : decode cX5_write 37 = .ok (.lload_n 2, 1) := by decide +kernel
theorem dX5_write_38 : decode cX5_write 38 = .ok (.l2i, 1) := by decide +kernel
theorem dX5_write_39 : decode cX5_write 39 = .ok (.i2b, 1) := by decide +kernel
theorem dX5_write_40 : decode cX5_write 40 = .ok (.i2l, 1) := by decide +kernel
theorem dX5_write_41 : decode cX5_write 41 = .ok (.lastore, 1) := by decide +kernel
theorem dX5_write_42 : decode cX5_write 42 = .ok (.goto 35, 3) := by decide +kernel
theorem dX5_write_45 : decode cX5_write 45 = .ok (.aload_n 0, 1) := by decide +kernel
theorem dX5_write_46 : decode cX5_write 46 = .ok (.getfield 9, 3) := by decide +kernel
theorem dX5_write_49 : decode cX5_write 49 = .ok (.iload_n 1, 1) := by decide +kernel
theorem dX5_write_50 : decode cX5_write 50 = .ok (.lload_n 2, 1) := by decide +kernel
theorem dX5_write_51 : decode cX5_write 51 = .ok (.l2i, 1) := by decide +kernel
theorem dX5_write_52 : decode cX5_write 52 = .ok (.i2s, 1) := by decide +kernel
theorem dX5_write_53 : decode cX5_write 53 = .ok (.i2l, 1) := by decide +kernel
theorem dX5_write_54 : decode cX5_write 54 = .ok (.lastore, 1) := by decide +kernel
theorem dX5_write_55 : decode cX5_write 55 = .ok (.goto 22, 3) := by decide +kernel
theorem dX5_write_58 : decode cX5_write 58 = .ok (.aload_n 0, 1) := by decide +kernel
theorem dX5_write_59 : decode cX5_write 59 = .ok (.getfield 9, 3) := by decide +kernel
theorem dX5_write_62 : decode cX5_write 62 = .ok (.iload_n 1, 1) := by decide +kernel
theorem dX5_write_63 : decode cX5_write 63 = .ok (.lload_n 2, 1) := by decide +kernel
theorem dX5_write_64 : decode cX5_write 64 = .ok (.l2i, 1) := by decide +kernel
theorem dX5_write_65 : decode cX5_write 65 = .ok (.i2l, 1) := by decide +kernel
theorem dX5_write_66 : decode cX5_write 66 = .ok (.lastore, 1) := by decide +kernel
theorem dX5_write_67 : decode cX5_write 67 = .ok (.goto 10, 3) := by decide +kernel
theorem dX5_write_70 : decode cX5_write 70 = .ok (.aload_n 0, 1) := by decide +kernel
theorem dX5_write_71 : decode cX5_write 71 = .ok (.getfield 9, 3) := by decide +kernel
theorem dX5_write_74 : decode cX5_write 74 = .ok (.iload_n 1, 1) := by decide +kernel
theorem dX5_write_75 : decode cX5_write 75 = .ok (.lload_n 2, 1) := by decide +kernel
theorem dX5_write_76 : decode cX5_write 76 = .ok (.lastore, 1) := by decide +kernel
theorem dX5_write_77 : decode cX5_write 77 = .ok (.return_, 1) := by decide +kernel
theorem dX6_init_0 : decode cX6_init 0 = .ok (.aload_n 0, 1) := by decide +kernel
theorem dX6_init_1 : decode cX6_init 1 = .ok (.invokespecial 3, 3) := by decide +kernel
theorem dX6_init_4 : decode cX6_init 4 = .ok (.aload_n 0, 1) := by decide +kernel
theorem dX6_init_5 : decode cX6_init 5 = .ok (.bipush 90, 2) := by decide +kernel
theorem dX6_init_7 : decode cX6_init 7 = .ok (.newarray .int, 2) := by decide +kernel
theorem dX6_init_9 : decode cX6_init 9 = .ok (.putfield 9, 3) := by decide +kernel
theorem dX6_init_12 : decode cX6_init 12 = .ok (.return_, 1) := by decide +kernel
theorem dX6_put_0 : decode cX6_put 0 = .ok (.aload_n 0, 1) := by decide +kernel
theorem dX6_put_1 : decode cX6_put 1 = .ok (.getfield 9, 3) := by decide +kernel
theorem dX6_put_4 : decode cX6_put 4 = .ok (.aload_n 0, 1) := by decide +kernel
theorem dX6_put_5 : decode cX6_put 5 = .ok (.getfield 15, 3) := by decide +kernel
theorem dX6_put_8 : decode cX6_put 8 = .ok (.iload_n 1, 1) := by decide +kernel
theorem dX6_put_9 : decode cX6_put 9 = .ok (.iastore, 1) := by decide +kernel
theorem dX6_put_10 : decode cX6_put 10 = .ok (.aload_n 0, 1) := by decide +kernel
theorem dX6_put_11 : decode cX6_put 11 = .ok (.dup, 1) := by decide +kernel
theorem dX6_put_12 : decode cX6_put 12 = .ok (.getfield 15, 3) := by decide +kernel
theorem dX6_put_15 : decode cX6_put 15 = .ok (.iconst 1, 1) := by decide +kernel
theorem dX6_put_16 : decode cX6_put 16 = .ok (.iadd, 1) := by decide +kernel
theorem dX6_put_17 : decode cX6_put 17 = .ok (.putfield 15, 3) := by decide +kernel
theorem dX6_put_20 : decode cX6_put 20 = .ok (.aload_n 0, 1) := by decide +kernel
theorem dX6_put_21 : decode cX6_put 21 = .ok (.getfield 15, 3) := by decide +kernel
theorem dX6_put_24 : decode cX6_put 24 = .ok (.ireturn, 1) := by decide +kernel
set_option maxRecDepth 20000 in
theorem ggX6_readRock_X2_clear : GoodIn wsX6_readRock wsX2_clear := goodIn_r _ [7, 8, 9, 10, 11, 167, 168, 169, 170, 171, 172, 173, 174, 175, 176, 177, 178] (by decide +kernel) (by decide +kernel)
set_option maxRecDepth 20000 in
theorem gX6_readRock_X2_clear : GoodIn wsX6_readRock (wsV RX6 19 RX2 yX2_clear wsX2_clear) := goodIn_app (goodIn_of _ (by decide +kernel)) ggX6_readRock_X2_clear
set_option maxRecDepth 20000 in
theorem ggX6_readRock_X6_readMarks : GoodIn wsX6_readRock wsX6_readMarks := goodIn_r _ [16, 17, 18, 19, 15, 20, 21, 22, 23, 24, 1, 25, 26, 27, 28, 29, 30, 31, 32, 33, 34, 35, 36, 37, 2, 38, 39, 40, 41, 42, 43, 44, 45, 46, 47, 48, 49, 50, 51, 52, 6, 53, 8, 54, 55, 56, 57, 163, 164, 165, 166, 167, 168, 169, 170, 171, 172, 173, 174, 175, 176, 177, 178] (by decide +kernel) (by decide +kernel)
set_option maxRecDepth 20000 in
theorem gX6_readRock_X6_readMarks : GoodIn wsX6_readRock (wsV RX6 30 RX6 yX6_readMarks wsX6_readMarks) := goodIn_app (goodIn_of _ (by decide +kernel)) ggX6_readRock_X6_readMarks
set_option maxRecDepth 20000 in
theorem ggX6_readRock_X6_accept : GoodIn wsX6_readRock wsX6_accept := goodIn_r _ [45, 1, 27, 28, 29, 15, 30, 26, 25, 163, 164, 165, 166] (by decide +kernel) (by decide +kernel)
set_option maxRecDepth 20000 in
theorem gX6_readRock_X6_accept : GoodIn wsX6_readRock (wsV RX6 34 RX6 yX6_accept wsX6_accept) := goodIn_app (goodIn_of _ (by decide +kernel)) ggX6_readRock_X6_accept
set_option maxRecDepth 20000 in
theorem ggX6_readRock_X6_readMonks : GoodIn wsX6_readRock wsX6_readMonks := goodIn_r _ [61, 62, 63, 64, 15, 65, 1, 66, 27, 28, 29, 30, 26, 25, 67, 68, 69, 70, 71, 72, 73, 74, 75, 76, 77, 78, 79, 80, 81, 82, 83, 84, 85, 86, 87, 88, 89, 90, 91, 92, 93, 94, 95, 96, 97, 98, 99, 100, 101, 102, 103, 104, 105, 106, 107, 108, 109, 110, 111, 112, 113, 114, 115, 116, 117, 118, 119, 120, 121, 122, 123, 124, 125, 126, 127, 128, 129, 130, 131, 132, 133, 134, 135, 136, 137, 138, 139, 140, 141, 142, 143, 144, 145, 146, 147, 148, 149, 150, 151, 152, 153, 154, 155, 34, 35, 36, 37, 2, 21, 22, 23, 24, 31, 32, 33, 42, 43, 44, 45, 46, 47, 48, 49, 156, 157, 158, 6, 159, 9, 160, 161, 162, 163, 164, 165, 166, 167, 168, 169, 170, 171, 172, 173, 174, 175, 176, 177, 178] (by decide +kernel) (by decide +kernel)
set_option maxRecDepth 20000 in
theorem gX6_readRock_X6_readMonks : GoodIn wsX6_readRock (wsV RX6 38 RX6 yX6_readMonks wsX6_readMonks) := goodIn_app (goodIn_of _ (by decide +kernel)) ggX6_readRock_X6_readMonks
set_option maxRecDepth 20000 in
theorem ggX6_readRock_X6_look : GoodIn wsX6_readRock wsX6_look := goodIn_r _ [30, 1, 26, 25, 163, 164, 165, 166] (by decide +kernel) (by decide +kernel)
set_option maxRecDepth 20000 in
theorem gX6_readRock_X6_look : GoodIn wsX6_readRock (wsV RX6 41 RX6 yX6_look wsX6_look) := goodIn_app (goodIn_of _ (by decide +kernel)) ggX6_readRock_X6_look
theorem dX6_readRock_0 : decode cX6_readRock 0 = .ok (.aload_n 1, 1) := by decide +kernel
theorem dX6_readRock_1 : decode cX6_readRock 1 = .ok (.invokevirtual 19, 3) := by decide +kernel
theorem dX6_readRock_4 : decode cX6_readRock 4 = .ok (.aload_n 0, 1) := by decide +kernel
theorem dX6_readRock_5 : decode cX6_readRock 5 = .ok (.iconst 0, 1) := by decide +kernel
theorem dX6_readRock_6 : decode cX6_readRock 6 = .ok (.putfield 24, 3) := by decide +kernel
theorem dX6_readRock_9 : decode cX6_readRock 9 = .ok (.aload_n 0, 1) := by decide +kernel
theorem dX6_readRock_10 : decode cX6_readRock 10 = .ok (.iconst (-1), 1) := by decide +kernel
theorem dX6_readRock_11 : decode cX6_readRock 11 = .ok (.putfield 27, 3) := by decide +kernel
theorem dX6_readRock_14 : decode cX6_readRock 14 = .ok (.aload_n 0, 1) := by decide +kernel
theorem dX6_readRock_15 : decode cX6_readRock 15 = .ok (.aload_n 1, 1) := by decide +kernel
theorem dX6_readRock_16 : decode cX6_readRock 16 = .ok (.invokevirtual 30, 3) := by decide +kernel
theorem dX6_readRock_19 : decode cX6_readRock 19 = .ok (.ifCond .ne 8, 3) := by decide +kernel
theorem dX6_readRock_22 : decode cX6_readRock 22 = .ok (.aload_n 0, 1) := by decide +kernel
theorem dX6_readRock_23 : decode cX6_readRock 23 = .ok (.getfield 27, 3) := by decide +kernel
theorem dX6_readRock_26 : decode cX6_readRock 26 = .ok (.ireturn, 1) := by decide +kernel
theorem dX6_readRock_27 : decode cX6_readRock 27 = .ok (.aload_n 0, 1) := by decide +kernel
theorem dX6_readRock_28 : decode cX6_readRock 28 = .ok (.bipush 59, 2) := by decide +kernel
theorem dX6_readRock_30 : decode cX6_readRock 30 = .ok (.invokevirtual 34, 3) := by decide +kernel
theorem dX6_readRock_33 : decode cX6_readRock 33 = .ok (.ifCond .eq 16, 3) := by decide +kernel
theorem dX6_readRock_36 : decode cX6_readRock 36 = .ok (.aload_n 0, 1) := by decide +kernel
theorem dX6_readRock_37 : decode cX6_readRock 37 = .ok (.aload_n 1, 1) := by decide +kernel
theorem dX6_readRock_38 : decode cX6_readRock 38 = .ok (.invokevirtual 38, 3) := by decide +kernel
theorem dX6_readRock_41 : decode cX6_readRock 41 = .ok (.ifCond .ne 8, 3) := by decide +kernel
theorem dX6_readRock_44 : decode cX6_readRock 44 = .ok (.aload_n 0, 1) := by decide +kernel
theorem dX6_readRock_45 : decode cX6_readRock 45 = .ok (.getfield 27, 3) := by decide +kernel
theorem dX6_readRock_48 : decode cX6_readRock 48 = .ok (.ireturn, 1) := by decide +kernel
theorem dX6_readRock_49 : decode cX6_readRock 49 = .ok (.aload_n 0, 1) := by decide +kernel
theorem dX6_readRock_50 : decode cX6_readRock 50 = .ok (.invokevirtual 41, 3) := by decide +kernel
theorem dX6_readRock_53 : decode cX6_readRock 53 = .ok (.iconst (-1), 1) := by decide +kernel
theorem dX6_readRock_54 : decode cX6_readRock 54 = .ok (.if_icmp .ne 7, 3) := by decide +kernel
theorem dX6_readRock_57 : decode cX6_readRock 57 = .ok (.iconst (-1), 1) := by decide +kernel
theorem dX6_readRock_58 : decode cX6_readRock 58 = .ok (.goto 7, 3) := by decide +kernel
theorem dX6_readRock_61 : decode cX6_readRock 61 = .ok (.aload_n 0, 1) := by decide +kernel
theorem dX6_readRock_62 : decode cX6_readRock 62 = .ok (.getfield 24, 3) := by decide +kernel
theorem dX6_readRock_65 : decode cX6_readRock 65 = .ok (.ireturn, 1) := by decide +kernel
set_option maxRecDepth 20000 in
theorem ggX6_readMarks_X6_readMark : GoodIn wsX6_readMarks wsX6_readMark := goodIn_r _ [5, 6, 7, 8, 4, 9, 10, 11, 12, 13, 14, 15, 16, 17, 18, 19, 20, 21, 22, 23, 24, 25, 26, 27, 28, 29, 30, 31, 32, 33, 34, 35, 36, 37, 38, 39, 40, 41, 42, 43, 44, 45, 46, 47, 48, 49, 50, 51, 52, 53, 54, 55, 56, 57, 58, 59, 60, 61, 62] (by decide +kernel) (by decide +kernel)
set_option maxRecDepth 20000 in
theorem gX6_readMarks_X6_readMark : GoodIn wsX6_readMarks (wsV RX6 45 RX6 yX6_readMark wsX6_readMark) := goodIn_app (goodIn_of _ (by decide +kernel)) ggX6_readMarks_X6_readMark
set_option maxRecDepth 20000 in
theorem ggX6_readMarks_X6_accept : GoodIn wsX6_readMarks wsX6_accept := goodIn_r _ [32, 10, 13, 14, 15, 4, 16, 12, 11, 47, 48, 49, 50] (by decide +kernel) (by decide +kernel)
set_option maxRecDepth 20000 in
theorem gX6_readMarks_X6_accept : GoodIn wsX6_readMarks (wsV RX6 34 RX6 yX6_accept wsX6_accept) := goodIn_app (goodIn_of _ (by decide +kernel)) ggX6_readMarks_X6_accept
theorem dX6_readMarks_0 : decode cX6_readMarks 0 = .ok (.iconst 1, 1) := by decide +kernel
theorem dX6_readMarks_1 : decode cX6_readMarks 1 = .ok (.istore_n 2, 1) := by decide +kernel
theorem dX6_readMarks_2 : decode cX6_readMarks 2 = .ok (.iconst 0, 1) := by decide +kernel
theorem dX6_readMarks_3 : decode cX6_readMarks 3 = .ok (.istore_n 3, 1) := by decide +kernel
theorem dX6_readMarks_4 : decode cX6_readMarks 4 = .ok (.iload_n 3, 1) := by decide +kernel
theorem dX6_readMarks_5 : decode cX6_readMarks 5 = .ok (.bipush 6, 2) := by decide +kernel
theorem dX6_readMarks_7 : decode cX6_readMarks 7 = .ok (.if_icmp .ge 43, 3) := by decide +kernel
theorem dX6_readMarks_10 : decode cX6_readMarks 10 = .ok (.iload_n 2, 1) := by decide +kernel
theorem dX6_readMarks_11 : decode cX6_readMarks 11 = .ok (.ifCond .eq 39, 3) := by decide +kernel
theorem dX6_readMarks_14 : decode cX6_readMarks 14 = .ok (.aload_n 0, 1) := by decide +kernel
theorem dX6_readMarks_15 : decode cX6_readMarks 15 = .ok (.aload_n 1, 1) := by decide +kernel
theorem dX6_readMarks_16 : decode cX6_readMarks 16 = .ok (.invokevirtual 45, 3) := by decide +kernel
theorem dX6_readMarks_19 : decode cX6_readMarks 19 = .ok (.ifCond .ne 5, 3) := by decide +kernel
theorem dX6_readMarks_22 : decode cX6_readMarks 22 = .ok (.iconst 0, 1) := by decide +kernel
theorem dX6_readMarks_23 : decode cX6_readMarks 23 = .ok (.ireturn, 1) := by decide +kernel
theorem dX6_readMarks_24 : decode cX6_readMarks 24 = .ok (.iload_n 3, 1) := by decide +kernel
theorem dX6_readMarks_25 : decode cX6_readMarks 25 = .ok (.iconst 5, 1) := by decide +kernel
theorem dX6_readMarks_26 : decode cX6_readMarks 26 = .ok (.if_icmp .ge 16, 3) := by decide +kernel
theorem dX6_readMarks_29 : decode cX6_readMarks 29 = .ok (.aload_n 0, 1) := by decide +kernel
theorem dX6_readMarks_30 : decode cX6_readMarks 30 = .ok (.bipush 44, 2) := by decide +kernel
theorem dX6_readMarks_32 : decode cX6_readMarks 32 = .ok (.invokevirtual 34, 3) := by decide +kernel
theorem dX6_readMarks_35 : decode cX6_readMarks 35 = .ok (.ifCond .eq 7, 3) := by decide +kernel
theorem dX6_readMarks_38 : decode cX6_readMarks 38 = .ok (.iconst 1, 1) := by decide +kernel
theorem dX6_readMarks_39 : decode cX6_readMarks 39 = .ok (.goto 4, 3) := by decide +kernel
theorem dX6_readMarks_42 : decode cX6_readMarks 42 = .ok (.iconst 0, 1) := by decide +kernel
theorem dX6_readMarks_43 : decode cX6_readMarks 43 = .ok (.istore_n 2, 1) := by decide +kernel
theorem dX6_readMarks_44 : decode cX6_readMarks 44 = .ok (.iinc 3 1, 3) := by decide +kernel
theorem dX6_readMarks_47 : decode cX6_readMarks 47 = .ok (.goto (-43), 3) := by decide +kernel
theorem dX6_readMarks_50 : decode cX6_readMarks 50 = .ok (.iconst 1, 1) := by decide +kernel
theorem dX6_readMarks_51 : decode cX6_readMarks 51 = .ok (.ireturn, 1) := by decide +kernel
set_option maxRecDepth 20000 in
theorem ggX6_readMonks_X6_readMonk : GoodIn wsX6_readMonks wsX6_readMonk := goodIn_r _ [5, 6, 7, 8, 9, 10, 4, 11, 12, 13, 14, 15, 16, 17, 18, 19, 20, 21, 22, 23, 24, 25, 26, 27, 28, 29, 30, 31, 32, 33, 34, 35, 36, 37, 38, 39, 40, 41, 42, 43, 44, 45, 46, 47, 48, 49, 50, 51, 52, 53, 54, 55, 56, 57, 58, 59, 60, 61, 62, 63, 64, 65, 66, 67, 68, 69, 70, 71, 72, 73, 74, 75, 76, 77, 78, 79, 80, 81, 82, 83, 84, 85, 86, 87, 88, 89, 90, 91, 92, 93, 94, 95, 96, 97, 98, 99, 100, 101, 102, 103, 104, 105, 106, 107, 108, 109, 110, 111, 112, 113, 114, 115, 116, 117, 118, 119, 120, 121, 122, 123, 124, 125, 126, 127, 128, 129, 130, 131, 132, 133, 134, 135, 136, 137, 138, 139, 140, 141, 142, 143, 144, 145, 146, 147] (by decide +kernel) (by decide +kernel)
set_option maxRecDepth 20000 in
theorem gX6_readMonks_X6_readMonk : GoodIn wsX6_readMonks (wsV RX6 48 RX6 yX6_readMonk wsX6_readMonk) := goodIn_app (goodIn_of _ (by decide +kernel)) ggX6_readMonks_X6_readMonk
set_option maxRecDepth 20000 in
theorem ggX6_readMonks_X6_accept : GoodIn wsX6_readMonks wsX6_accept := goodIn_r _ [118, 6, 8, 9, 10, 4, 11, 12, 13, 132, 133, 134, 135] (by decide +kernel) (by decide +kernel)
set_option maxRecDepth 20000 in
theorem gX6_readMonks_X6_accept : GoodIn wsX6_readMonks (wsV RX6 34 RX6 yX6_accept wsX6_accept) := goodIn_app (goodIn_of _ (by decide +kernel)) ggX6_readMonks_X6_accept
theorem dX6_readMonks_0 : decode cX6_readMonks 0 = .ok (.iconst 1, 1) := by decide +kernel
theorem dX6_readMonks_1 : decode cX6_readMonks 1 = .ok (.istore_n 2, 1) := by decide +kernel
theorem dX6_readMonks_2 : decode cX6_readMonks 2 = .ok (.iconst 0, 1) := by decide +kernel
theorem dX6_readMonks_3 : decode cX6_readMonks 3 = .ok (.istore_n 3, 1) := by decide +kernel
theorem dX6_readMonks_4 : decode cX6_readMonks 4 = .ok (.iload_n 3, 1) := by decide +kernel
theorem dX6_readMonks_5 : decode cX6_readMonks 5 = .ok (.iconst 5, 1) := by decide +kernel
theorem dX6_readMonks_6 : decode cX6_readMonks 6 = .ok (.if_icmp .ge 43, 3) := by decide +kernel
theorem dX6_readMonks_9 : decode cX6_readMonks 9 = .ok (.iload_n 2, 1) := by decide +kernel
theorem dX6_readMonks_10 : decode cX6_readMonks 10 = .ok (.ifCond .eq 39, 3) := by decide +kernel
theorem dX6_readMonks_13 : decode cX6_readMonks 13 = .ok (.aload_n 0, 1) := by decide +kernel
theorem dX6_readMonks_14 : decode cX6_readMonks 14 = .ok (.aload_n 1, 1) := by decide +kernel
theorem dX6_readMonks_15 : decode cX6_readMonks 15 = .ok (.invokevirtual 48, 3) := by decide +kernel
theorem dX6_readMonks_18 : decode cX6_readMonks 18 = .ok (.ifCond .ne 5, 3) := by decide +kernel
theorem dX6_readMonks_21 : decode cX6_readMonks 21 = .ok (.iconst 0, 1) := by decide +kernel
theorem dX6_readMonks_22 : decode cX6_readMonks 22 = .ok (.ireturn, 1) := by decide +kernel
theorem dX6_readMonks_23 : decode cX6_readMonks 23 = .ok (.iload_n 3, 1) := by decide +kernel
theorem dX6_readMonks_24 : decode cX6_readMonks 24 = .ok (.iconst 4, 1) := by decide +kernel
theorem dX6_readMonks_25 : decode cX6_readMonks 25 = .ok (.if_icmp .ge 16, 3) := by decide +kernel
theorem dX6_readMonks_28 : decode cX6_readMonks 28 = .ok (.aload_n 0, 1) := by decide +kernel
theorem dX6_readMonks_29 : decode cX6_readMonks 29 = .ok (.bipush 44, 2) := by decide +kernel
theorem dX6_readMonks_31 : decode cX6_readMonks 31 = .ok (.invokevirtual 34, 3) := by decide +kernel
theorem dX6_readMonks_34 : decode cX6_readMonks 34 = .ok (.ifCond .eq 7, 3) := by decide +kernel
theorem dX6_readMonks_37 : decode cX6_readMonks 37 = .ok (.iconst 1, 1) := by decide +kernel
theorem dX6_readMonks_38 : decode cX6_readMonks 38 = .ok (.goto 4, 3) := by decide +kernel
theorem dX6_readMonks_41 : decode cX6_readMonks 41 = .ok (.iconst 0, 1) := by decide +kernel
theorem dX6_readMonks_42 : decode cX6_readMonks 42 = .ok (.istore_n 2, 1) := by decide +kernel
theorem dX6_readMonks_43 : decode cX6_readMonks 43 = .ok (.iinc 3 1, 3) := by decide +kernel
theorem dX6_readMonks_46 : decode cX6_readMonks 46 = .ok (.goto (-42), 3) := by decide +kernel
theorem dX6_readMonks_49 : decode cX6_readMonks 49 = .ok (.iconst 1, 1) := by decide +kernel
theorem dX6_readMonks_50 : decode cX6_readMonks 50 = .ok (.ireturn, 1) := by decide +kernel
set_option maxRecDepth 20000 in
theorem ggX6_readMark_X6_readNumber : GoodIn wsX6_readMark wsX6_readNumber := goodIn_r _ [5, 6, 7, 8, 9, 10, 11, 4, 12, 13, 14, 15, 16, 17, 18, 19, 20, 43, 44, 45, 46] (by decide +kernel) (by decide +kernel)
set_option maxRecDepth 20000 in
theorem gX6_readMark_X6_readNumber : GoodIn wsX6_readMark (wsV RX6 51 RX6 yX6_readNumber wsX6_readNumber) := goodIn_app (goodIn_of _ (by decide +kernel)) ggX6_readMark_X6_readNumber
set_option maxRecDepth 20000 in
theorem ggX6_readMark_X6_expect : GoodIn wsX6_readMark wsX6_expect := goodIn_r _ [24, 6, 25, 26, 27, 4, 28, 9, 10, 11, 12, 8, 7, 16, 17, 18, 19, 20, 43, 44, 45, 46] (by decide +kernel) (by decide +kernel)
set_option maxRecDepth 20000 in
theorem gX6_readMark_X6_expect : GoodIn wsX6_readMark (wsV RX6 55 RX6 yX6_expect wsX6_expect) := goodIn_app (goodIn_of _ (by decide +kernel)) ggX6_readMark_X6_expect
set_option maxRecDepth 20000 in
theorem ggX6_readMark_X6_readDigit : GoodIn wsX6_readMark wsX6_readDigit := goodIn_r _ [32, 6, 9, 10, 11, 4, 12, 8, 7, 16, 17, 18, 19, 20, 43, 44, 45, 46] (by decide +kernel) (by decide +kernel)
set_option maxRecDepth 20000 in
theorem gX6_readMark_X6_readDigit : GoodIn wsX6_readMark (wsV RX6 58 RX6 yX6_readDigit wsX6_readDigit) := goodIn_app (goodIn_of _ (by decide +kernel)) ggX6_readMark_X6_readDigit
set_option maxRecDepth 20000 in
theorem ggX6_readMark_X6_accept : GoodIn wsX6_readMark wsX6_accept := goodIn_r _ [28, 6, 9, 10, 11, 4, 12, 8, 7, 43, 44, 45, 46] (by decide +kernel) (by decide +kernel)
set_option maxRecDepth 20000 in
theorem gX6_readMark_X6_accept : GoodIn wsX6_readMark (wsV RX6 34 RX6 yX6_accept wsX6_accept) := goodIn_app (goodIn_of _ (by decide +kernel)) ggX6_readMark_X6_accept
set_option maxRecDepth 20000 in
theorem ggX6_readMark_X2_addMark : GoodIn wsX6_readMark wsX2_addMark := goodIn_r _ [37, 38, 39, 40, 41, 42, 47, 48, 49, 50, 51, 52, 53, 54, 55, 56, 57, 58] (by decide +kernel) (by decide +kernel)
set_option maxRecDepth 20000 in
theorem gX6_readMark_X2_addMark : GoodIn wsX6_readMark (wsV RX6 62 RX2 yX2_addMark wsX2_addMark) := goodIn_app (goodIn_of _ (by decide +kernel)) ggX6_readMark_X2_addMark
theorem dX6_readMark_0 : decode cX6_readMark 0 = .ok (.aload_n 0, 1) := by decide +kernel
theorem dX6_readMark_1 : decode cX6_readMark 1 = .ok (.bipush 60, 2) := by decide +kernel
theorem dX6_readMark_3 : decode cX6_readMark 3 = .ok (.invokevirtual 51, 3) := by decide +kernel
theorem dX6_readMark_6 : decode cX6_readMark 6 = .ok (.istore_n 2, 1) := by decide +kernel
theorem dX6_readMark_7 : decode cX6_readMark 7 = .ok (.iload_n 2, 1) := by decide +kernel
theorem dX6_readMark_8 : decode cX6_readMark 8 = .ok (.ifCond .lt 12, 3) := by decide +kernel
theorem dX6_readMark_11 : decode cX6_readMark 11 = .ok (.aload_n 0, 1) := by decide +kernel
theorem dX6_readMark_12 : decode cX6_readMark 12 = .ok (.bipush 46, 2) := by decide +kernel
theorem dX6_readMark_14 : decode cX6_readMark 14 = .ok (.invokevirtual 55, 3) := by decide +kernel
theorem dX6_readMark_17 : decode cX6_readMark 17 = .ok (.ifCond .ne 5, 3) := by decide +kernel
theorem dX6_readMark_20 : decode cX6_readMark 20 = .ok (.iconst 0, 1) := by decide +kernel
theorem dX6_readMark_21 : decode cX6_readMark 21 = .ok (.ireturn, 1) := by decide +kernel
theorem dX6_readMark_22 : decode cX6_readMark 22 = .ok (.aload_n 0, 1) := by decide +kernel
theorem dX6_readMark_23 : decode cX6_readMark 23 = .ok (.iconst 1, 1) := by decide +kernel
theorem dX6_readMark_24 : decode cX6_readMark 24 = .ok (.bipush 9, 2) := by decide +kernel
theorem dX6_readMark_26 : decode cX6_readMark 26 = .ok (.invokevirtual 58, 3) := by decide +kernel
theorem dX6_readMark_29 : decode cX6_readMark 29 = .ok (.istore_n 3, 1) := by decide +kernel
theorem dX6_readMark_30 : decode cX6_readMark 30 = .ok (.iload_n 3, 1) := by decide +kernel
theorem dX6_readMark_31 : decode cX6_readMark 31 = .ok (.ifCond .ge 5, 3) := by decide +kernel
theorem dX6_readMark_34 : decode cX6_readMark 34 = .ok (.iconst 0, 1) := by decide +kernel
theorem dX6_readMark_35 : decode cX6_readMark 35 = .ok (.ireturn, 1) := by decide +kernel
theorem dX6_readMark_36 : decode cX6_readMark 36 = .ok (.aload_n 0, 1) := by decide +kernel
theorem dX6_readMark_37 : decode cX6_readMark 37 = .ok (.bipush 47, 2) := by decide +kernel
theorem dX6_readMark_39 : decode cX6_readMark 39 = .ok (.invokevirtual 34, 3) := by decide +kernel
theorem dX6_readMark_42 : decode cX6_readMark 42 = .ok (.ifCond .eq 12, 3) := by decide +kernel
theorem dX6_readMark_45 : decode cX6_readMark 45 = .ok (.aload_n 0, 1) := by decide +kernel
theorem dX6_readMark_46 : decode cX6_readMark 46 = .ok (.bipush 60, 2) := by decide +kernel
theorem dX6_readMark_48 : decode cX6_readMark 48 = .ok (.invokevirtual 51, 3) := by decide +kernel
theorem dX6_readMark_51 : decode cX6_readMark 51 = .ok (.goto 4, 3) := by decide +kernel
theorem dX6_readMark_54 : decode cX6_readMark 54 = .ok (.iconst 0, 1) := by decide +kernel
theorem dX6_readMark_55 : decode cX6_readMark 55 = .ok (.istore 4, 2) := by decide +kernel
theorem dX6_readMark_57 : decode cX6_readMark 57 = .ok (.iload 4, 2) := by decide +kernel
theorem dX6_readMark_59 : decode cX6_readMark 59 = .ok (.ifCond .ge 5, 3) := by decide +kernel
theorem dX6_readMark_62 : decode cX6_readMark 62 = .ok (.iconst 0, 1) := by decide +kernel
theorem dX6_readMark_63 : decode cX6_readMark 63 = .ok (.ireturn, 1) := by decide +kernel
theorem dX6_readMark_64 : decode cX6_readMark 64 = .ok (.aload_n 1, 1) := by decide +kernel
theorem dX6_readMark_65 : decode cX6_readMark 65 = .ok (.iload_n 2, 1) := by decide +kernel
theorem dX6_readMark_66 : decode cX6_readMark 66 = .ok (.iload_n 3, 1) := by decide +kernel
theorem dX6_readMark_67 : decode cX6_readMark 67 = .ok (.iload 4, 2) := by decide +kernel
theorem dX6_readMark_69 : decode cX6_readMark 69 = .ok (.invokevirtual 62, 3) := by decide +kernel
theorem dX6_readMark_72 : decode cX6_readMark 72 = .ok (.pop, 1) := by decide +kernel
theorem dX6_readMark_73 : decode cX6_readMark 73 = .ok (.iconst 1, 1) := by decide +kernel
theorem dX6_readMark_74 : decode cX6_readMark 74 = .ok (.ireturn, 1) := by decide +kernel
set_option maxRecDepth 20000 in
theorem ggX6_readMonk_X6_look : GoodIn wsX6_readMonk wsX6_look := goodIn_r _ [7, 1, 8, 9, 128, 129, 130, 131] (by decide +kernel) (by decide +kernel)
set_option maxRecDepth 20000 in
theorem gX6_readMonk_X6_look : GoodIn wsX6_readMonk (wsV RX6 41 RX6 yX6_look wsX6_look) := goodIn_app (goodIn_of _ (by decide +kernel)) ggX6_readMonk_X6_look
set_option maxRecDepth 20000 in
theorem ggX6_readMonk_J0_indexOf_0f7a4 : GoodIn wsX6_readMonk wsJ0_indexOf_0f7a4 := goodIn_r _ [14, 15, 16, 17, 13, 18, 19, 20, 21, 22, 23, 24, 25, 26, 27, 28, 29, 30, 31, 32, 33, 34, 35, 36, 37, 38, 39, 40, 41, 42, 43, 44, 45, 46, 47, 48, 49, 50, 51, 52, 53, 54, 55, 56, 57, 58, 59, 60, 61, 62, 63, 64, 65, 66, 67, 68, 69, 70, 71, 72, 73, 74, 75, 76, 77, 78, 79, 80, 81, 82, 83, 84, 85, 86, 87, 88, 89, 90, 91, 92, 93, 94, 95, 96, 97, 98] (by decide +kernel) (by decide +kernel)
set_option maxRecDepth 20000 in
theorem gX6_readMonk_J0_indexOf_0f7a4 : GoodIn wsX6_readMonk (wsV RX6 68 RJ0 yJ0_indexOf_0f7a4 wsJ0_indexOf_0f7a4) := goodIn_app (goodIn_of _ (by decide +kernel)) ggX6_readMonk_J0_indexOf_0f7a4
set_option maxRecDepth 20000 in
theorem ggX6_readMonk_X6_failAt : GoodIn wsX6_readMonk wsX6_failAt := goodIn_r _ [102, 103, 128, 129, 130, 131] (by decide +kernel) (by decide +kernel)
set_option maxRecDepth 20000 in
theorem gX6_readMonk_X6_failAt : GoodIn wsX6_readMonk (wsV RX6 73 RX6 yX6_failAt wsX6_failAt) := goodIn_app (goodIn_of _ (by decide +kernel)) ggX6_readMonk_X6_failAt
set_option maxRecDepth 20000 in
theorem ggX6_readMonk_X6_readNumber : GoodIn wsX6_readMonk wsX6_readNumber := goodIn_r _ [107, 1, 9, 8, 3, 4, 5, 6, 7, 108, 109, 110, 99, 100, 101, 102, 103, 128, 129, 130, 131] (by decide +kernel) (by decide +kernel)
set_option maxRecDepth 20000 in
theorem gX6_readMonk_X6_readNumber : GoodIn wsX6_readMonk (wsV RX6 51 RX6 yX6_readNumber wsX6_readNumber) := goodIn_app (goodIn_of _ (by decide +kernel)) ggX6_readMonk_X6_readNumber
set_option maxRecDepth 20000 in
theorem ggX6_readMonk_X6_accept : GoodIn wsX6_readMonk wsX6_accept := goodIn_r _ [114, 1, 3, 4, 5, 6, 7, 8, 9, 128, 129, 130, 131] (by decide +kernel) (by decide +kernel)
set_option maxRecDepth 20000 in
theorem gX6_readMonk_X6_accept : GoodIn wsX6_readMonk (wsV RX6 34 RX6 yX6_accept wsX6_accept) := goodIn_app (goodIn_of _ (by decide +kernel)) ggX6_readMonk_X6_accept
set_option maxRecDepth 20000 in
theorem ggX6_readMonk_X6_readDigit : GoodIn wsX6_readMonk wsX6_readDigit := goodIn_r _ [118, 1, 3, 4, 5, 6, 7, 8, 9, 99, 100, 101, 102, 103, 128, 129, 130, 131] (by decide +kernel) (by decide +kernel)
set_option maxRecDepth 20000 in
theorem gX6_readMonk_X6_readDigit : GoodIn wsX6_readMonk (wsV RX6 58 RX6 yX6_readDigit wsX6_readDigit) := goodIn_app (goodIn_of _ (by decide +kernel)) ggX6_readMonk_X6_readDigit
set_option maxRecDepth 20000 in
theorem ggX6_readMonk_X2_addMonk : GoodIn wsX6_readMonk wsX2_addMonk := goodIn_r _ [123, 124, 125, 126, 127, 132, 133, 134, 135, 136, 137, 138, 139, 140, 141, 142, 143] (by decide +kernel) (by decide +kernel)
set_option maxRecDepth 20000 in
theorem gX6_readMonk_X2_addMonk : GoodIn wsX6_readMonk (wsV RX6 80 RX2 yX2_addMonk wsX2_addMonk) := goodIn_app (goodIn_of _ (by decide +kernel)) ggX6_readMonk_X2_addMonk
theorem dX6_readMonk_0 : decode cX6_readMonk 0 = .ok (.aload_n 0, 1) := by decide +kernel
theorem dX6_readMonk_1 : decode cX6_readMonk 1 = .ok (.invokevirtual 41, 3) := by decide +kernel
theorem dX6_readMonk_4 : decode cX6_readMonk 4 = .ok (.istore_n 2, 1) := by decide +kernel
theorem dX6_readMonk_5 : decode cX6_readMonk 5 = .ok (.iload_n 2, 1) := by decide +kernel
theorem dX6_readMonk_6 : decode cX6_readMonk 6 = .ok (.iconst (-1), 1) := by decide +kernel
theorem dX6_readMonk_7 : decode cX6_readMonk 7 = .ok (.if_icmp .ne 7, 3) := by decide +kernel
theorem dX6_readMonk_10 : decode cX6_readMonk 10 = .ok (.iconst (-1), 1) := by decide +kernel
theorem dX6_readMonk_11 : decode cX6_readMonk 11 = .ok (.goto 10, 3) := by decide +kernel
theorem dX6_readMonk_14 : decode cX6_readMonk 14 = .ok (.ldc 66, 2) := by decide +kernel
theorem dX6_readMonk_16 : decode cX6_readMonk 16 = .ok (.iload_n 2, 1) := by decide +kernel
theorem dX6_readMonk_17 : decode cX6_readMonk 17 = .ok (.i2c, 1) := by decide +kernel
theorem dX6_readMonk_18 : decode cX6_readMonk 18 = .ok (.invokevirtual 68, 3) := by decide +kernel
theorem dX6_readMonk_21 : decode cX6_readMonk 21 = .ok (.istore_n 3, 1) := by decide +kernel
theorem dX6_readMonk_22 : decode cX6_readMonk 22 = .ok (.iload_n 3, 1) := by decide +kernel
theorem dX6_readMonk_23 : decode cX6_readMonk 23 = .ok (.ifCond .ge 12, 3) := by decide +kernel
theorem dX6_readMonk_26 : decode cX6_readMonk 26 = .ok (.aload_n 0, 1) := by decide +kernel
theorem dX6_readMonk_27 : decode cX6_readMonk 27 = .ok (.aload_n 0, 1) := by decide +kernel
theorem dX6_readMonk_28 : decode cX6_readMonk 28 = .ok (.getfield 24, 3) := by decide +kernel
theorem dX6_readMonk_31 : decode cX6_readMonk 31 = .ok (.invokevirtual 73, 3) := by decide +kernel
theorem dX6_readMonk_34 : decode cX6_readMonk 34 = .ok (.ireturn, 1) := by decide +kernel
theorem dX6_readMonk_35 : decode cX6_readMonk 35 = .ok (.aload_n 0, 1) := by decide +kernel
theorem dX6_readMonk_36 : decode cX6_readMonk 36 = .ok (.dup, 1) := by decide +kernel
theorem dX6_readMonk_37 : decode cX6_readMonk 37 = .ok (.getfield 24, 3) := by decide +kernel
theorem dX6_readMonk_40 : decode cX6_readMonk 40 = .ok (.iconst 1, 1) := by decide +kernel
theorem dX6_readMonk_41 : decode cX6_readMonk 41 = .ok (.iadd, 1) := by decide +kernel
theorem dX6_readMonk_42 : decode cX6_readMonk 42 = .ok (.putfield 24, 3) := by decide +kernel
theorem dX6_readMonk_45 : decode cX6_readMonk 45 = .ok (.aload_n 0, 1) := by decide +kernel
theorem dX6_readMonk_46 : decode cX6_readMonk 46 = .ok (.bipush 99, 2) := by decide +kernel
theorem dX6_readMonk_48 : decode cX6_readMonk 48 = .ok (.invokevirtual 51, 3) := by decide +kernel
theorem dX6_readMonk_51 : decode cX6_readMonk 51 = .ok (.istore 4, 2) := by decide +kernel
theorem dX6_readMonk_53 : decode cX6_readMonk 53 = .ok (.iload 4, 2) := by decide +kernel
theorem dX6_readMonk_55 : decode cX6_readMonk 55 = .ok (.ifCond .ge 5, 3) := by decide +kernel
theorem dX6_readMonk_58 : decode cX6_readMonk 58 = .ok (.iconst 0, 1) := by decide +kernel
theorem dX6_readMonk_59 : decode cX6_readMonk 59 = .ok (.ireturn, 1) := by decide +kernel
theorem dX6_readMonk_60 : decode cX6_readMonk 60 = .ok (.bipush (-4), 2) := by decide +kernel
theorem dX6_readMonk_62 : decode cX6_readMonk 62 = .ok (.istore 5, 2) := by decide +kernel
theorem dX6_readMonk_64 : decode cX6_readMonk 64 = .ok (.aload_n 0, 1) := by decide +kernel
theorem dX6_readMonk_65 : decode cX6_readMonk 65 = .ok (.bipush 62, 2) := by decide +kernel
theorem dX6_readMonk_67 : decode cX6_readMonk 67 = .ok (.invokevirtual 34, 3) := by decide +kernel
theorem dX6_readMonk_70 : decode cX6_readMonk 70 = .ok (.ifCond .eq 23, 3) := by decide +kernel
theorem dX6_readMonk_73 : decode cX6_readMonk 73 = .ok (.aload_n 0, 1) := by decide +kernel
theorem dX6_readMonk_74 : decode cX6_readMonk 74 = .ok (.iconst 0, 1) := by decide +kernel
theorem dX6_readMonk_75 : decode cX6_readMonk 75 = .ok (.aload_n 1, 1) := by decide +kernel
theorem dX6_readMonk_76 : decode cX6_readMonk 76 = .ok (.getfield 77, 3) := by decide +kernel
theorem dX6_readMonk_79 : decode cX6_readMonk 79 = .ok (.iconst 1, 1) := by decide +kernel
theorem dX6_readMonk_80 : decode cX6_readMonk 80 = .ok (.isub, 1) := by decide +kernel
theorem dX6_readMonk_81 : decode cX6_readMonk 81 = .ok (.invokevirtual 58, 3) := by decide +kernel
theorem dX6_readMonk_84 : decode cX6_readMonk 84 = .ok (.istore 5, 2) := by decide +kernel
theorem dX6_readMonk_86 : decode cX6_readMonk 86 = .ok (.iload 5, 2) := by decide +kernel
theorem dX6_readMonk_88 : decode cX6_readMonk 88 = .ok (.ifCond .ge 5, 3) := by decide +kernel
theorem dX6_readMonk_91 : decode cX6_readMonk 91 = .ok (.iconst 0, 1) := by decide +kernel
theorem dX6_readMonk_92 : decode cX6_readMonk 92 = .ok (.ireturn, 1) := by decide +kernel
theorem dX6_readMonk_93 : decode cX6_readMonk 93 = .ok (.aload_n 1, 1) := by decide +kernel
theorem dX6_readMonk_94 : decode cX6_readMonk 94 = .ok (.iload_n 3, 1) := by decide +kernel
theorem dX6_readMonk_95 : decode cX6_readMonk 95 = .ok (.iload 4, 2) := by decide +kernel
theorem dX6_readMonk_97 : decode cX6_readMonk 97 = .ok (.iload 5, 2) := by decide +kernel
theorem dX6_readMonk_99 : decode cX6_readMonk 99 = .ok (.invokevirtual 80, 3) := by decide +kernel
theorem dX6_readMonk_102 : decode cX6_readMonk 102 = .ok (.pop, 1) := by decide +kernel
theorem dX6_readMonk_103 : decode cX6_readMonk 103 = .ok (.iconst 1, 1) := by decide +kernel
theorem dX6_readMonk_104 : decode cX6_readMonk 104 = .ok (.ireturn, 1) := by decide +kernel
set_option maxRecDepth 20000 in
theorem ggX6_readNumber_X6_look : GoodIn wsX6_readNumber wsX6_look := goodIn_r _ [8, 1, 3, 2, 17, 18, 19, 20] (by decide +kernel) (by decide +kernel)
set_option maxRecDepth 20000 in
theorem gX6_readNumber_X6_look : GoodIn wsX6_readNumber (wsV RX6 41 RX6 yX6_look wsX6_look) := goodIn_app (goodIn_of _ (by decide +kernel)) ggX6_readNumber_X6_look
set_option maxRecDepth 20000 in
theorem ggX6_readNumber_X6_isDigit : GoodIn wsX6_readNumber wsX6_isDigit := goodIn_r _ [11] (by decide +kernel) (by decide +kernel)
set_option maxRecDepth 20000 in
theorem gX6_readNumber_X6_isDigit : GoodIn wsX6_readNumber (va_wsS RX6 83 yX6_isDigit wsX6_isDigit) := goodIn_app (goodIn_of _ (by decide +kernel)) ggX6_readNumber_X6_isDigit
set_option maxRecDepth 20000 in
theorem ggX6_readNumber_X6_failAt : GoodIn wsX6_readNumber wsX6_failAt := goodIn_r _ [15, 16, 17, 18, 19, 20] (by decide +kernel) (by decide +kernel)
set_option maxRecDepth 20000 in
theorem gX6_readNumber_X6_failAt : GoodIn wsX6_readNumber (wsV RX6 73 RX6 yX6_failAt wsX6_failAt) := goodIn_app (goodIn_of _ (by decide +kernel)) ggX6_readNumber_X6_failAt
theorem dX6_readNumber_0 : decode cX6_readNumber 0 = .ok (.aload_n 0, 1) := by decide +kernel
theorem dX6_readNumber_1 : decode cX6_readNumber 1 = .ok (.invokevirtual 41, 3) := by decide +kernel
theorem dX6_readNumber_4 : decode cX6_readNumber 4 = .ok (.invokestatic 83, 3) := by decide +kernel
theorem dX6_readNumber_7 : decode cX6_readNumber 7 = .ok (.ifCond .ne 14, 3) := by decide +kernel
theorem dX6_readNumber_10 : decode cX6_readNumber 10 = .ok (.aload_n 0, 1) := by decide +kernel
theorem dX6_readNumber_11 : decode cX6_readNumber 11 = .ok (.aload_n 0, 1) := by decide +kernel
theorem dX6_readNumber_12 : decode cX6_readNumber 12 = .ok (.getfield 24, 3) := by decide +kernel
theorem dX6_readNumber_15 : decode cX6_readNumber 15 = .ok (.invokevirtual 73, 3) := by decide +kernel
theorem dX6_readNumber_18 : decode cX6_readNumber 18 = .ok (.pop, 1) := by decide +kernel
theorem dX6_readNumber_19 : decode cX6_readNumber 19 = .ok (.iconst (-1), 1) := by decide +kernel
theorem dX6_readNumber_20 : decode cX6_readNumber 20 = .ok (.ireturn, 1) := by decide +kernel
theorem dX6_readNumber_21 : decode cX6_readNumber 21 = .ok (.aload_n 0, 1) := by decide +kernel
theorem dX6_readNumber_22 : decode cX6_readNumber 22 = .ok (.getfield 24, 3) := by decide +kernel
theorem dX6_readNumber_25 : decode cX6_readNumber 25 = .ok (.istore_n 2, 1) := by decide +kernel
theorem dX6_readNumber_26 : decode cX6_readNumber 26 = .ok (.aload_n 0, 1) := by decide +kernel
theorem dX6_readNumber_27 : decode cX6_readNumber 27 = .ok (.getfield 9, 3) := by decide +kernel
theorem dX6_readNumber_30 : decode cX6_readNumber 30 = .ok (.aload_n 0, 1) := by decide +kernel
theorem dX6_readNumber_31 : decode cX6_readNumber 31 = .ok (.getfield 24, 3) := by decide +kernel
theorem dX6_readNumber_34 : decode cX6_readNumber 34 = .ok (.iaload, 1) := by decide +kernel
theorem dX6_readNumber_35 : decode cX6_readNumber 35 = .ok (.bipush 48, 2) := by decide +kernel
theorem dX6_readNumber_37 : decode cX6_readNumber 37 = .ok (.isub, 1) := by decide +kernel
theorem dX6_readNumber_38 : decode cX6_readNumber 38 = .ok (.istore_n 3, 1) := by decide +kernel
theorem dX6_readNumber_39 : decode cX6_readNumber 39 = .ok (.aload_n 0, 1) := by decide +kernel
theorem dX6_readNumber_40 : decode cX6_readNumber 40 = .ok (.dup, 1) := by decide +kernel
theorem dX6_readNumber_41 : decode cX6_readNumber 41 = .ok (.getfield 24, 3) := by decide +kernel
theorem dX6_readNumber_44 : decode cX6_readNumber 44 = .ok (.iconst 1, 1) := by decide +kernel
theorem dX6_readNumber_45 : decode cX6_readNumber 45 = .ok (.iadd, 1) := by decide +kernel
theorem dX6_readNumber_46 : decode cX6_readNumber 46 = .ok (.putfield 24, 3) := by decide +kernel
theorem dX6_readNumber_49 : decode cX6_readNumber 49 = .ok (.aload_n 0, 1) := by decide +kernel
theorem dX6_readNumber_50 : decode cX6_readNumber 50 = .ok (.getfield 24, 3) := by decide +kernel
theorem dX6_readNumber_53 : decode cX6_readNumber 53 = .ok (.aload_n 0, 1) := by decide +kernel
theorem dX6_readNumber_54 : decode cX6_readNumber 54 = .ok (.getfield 15, 3) := by decide +kernel
theorem dX6_readNumber_57 : decode cX6_readNumber 57 = .ok (.if_icmp .ge 46, 3) := by decide +kernel
theorem dX6_readNumber_60 : decode cX6_readNumber 60 = .ok (.aload_n 0, 1) := by decide +kernel
theorem dX6_readNumber_61 : decode cX6_readNumber 61 = .ok (.getfield 9, 3) := by decide +kernel
theorem dX6_readNumber_64 : decode cX6_readNumber 64 = .ok (.aload_n 0, 1) := by decide +kernel
theorem dX6_readNumber_65 : decode cX6_readNumber 65 = .ok (.getfield 24, 3) := by decide +kernel
theorem dX6_readNumber_68 : decode cX6_readNumber 68 = .ok (.iaload, 1) := by decide +kernel
theorem dX6_readNumber_69 : decode cX6_readNumber 69 = .ok (.invokestatic 83, 3) := by decide +kernel
theorem dX6_readNumber_72 : decode cX6_readNumber 72 = .ok (.ifCond .eq 31, 3) := by decide +kernel
theorem dX6_readNumber_75 : decode cX6_readNumber 75 = .ok (.bipush 10, 2) := by decide +kernel
theorem dX6_readNumber_77 : decode cX6_readNumber 77 = .ok (.iload_n 3, 1) := by decide +kernel
theorem dX6_readNumber_78 : decode cX6_readNumber 78 = .ok (.imul, 1) := by decide +kernel
theorem dX6_readNumber_79 : decode cX6_readNumber 79 = .ok (.aload_n 0, 1) := by decide +kernel
theorem dX6_readNumber_80 : decode cX6_readNumber 80 = .ok (.getfield 9, 3) := by decide +kernel
theorem dX6_readNumber_83 : decode cX6_readNumber 83 = .ok (.aload_n 0, 1) := by decide +kernel
theorem dX6_readNumber_84 : decode cX6_readNumber 84 = .ok (.getfield 24, 3) := by decide +kernel
theorem dX6_readNumber_87 : decode cX6_readNumber 87 = .ok (.iaload, 1) := by decide +kernel
theorem dX6_readNumber_88 : decode cX6_readNumber 88 = .ok (.iadd, 1) := by decide +kernel
theorem dX6_readNumber_89 : decode cX6_readNumber 89 = .ok (.bipush 48, 2) := by decide +kernel
theorem dX6_readNumber_91 : decode cX6_readNumber 91 = .ok (.isub, 1) := by decide +kernel
theorem dX6_readNumber_92 : decode cX6_readNumber 92 = .ok (.istore_n 3, 1) := by decide +kernel
theorem dX6_readNumber_93 : decode cX6_readNumber 93 = .ok (.aload_n 0, 1) := by decide +kernel
theorem dX6_readNumber_94 : decode cX6_readNumber 94 = .ok (.dup, 1) := by decide +kernel
theorem dX6_readNumber_95 : decode cX6_readNumber 95 = .ok (.getfield 24, 3) := by decide +kernel
theorem dX6_readNumber_98 : decode cX6_readNumber 98 = .ok (.iconst 1, 1) := by decide +kernel
theorem dX6_readNumber_99 : decode cX6_readNumber 99 = .ok (.iadd, 1) := by decide +kernel
theorem dX6_readNumber_100 : decode cX6_readNumber 100 = .ok (.putfield 24, 3) := by decide +kernel
theorem dX6_readNumber_103 : decode cX6_readNumber 103 = .ok (.iload_n 3, 1) := by decide +kernel
theorem dX6_readNumber_104 : decode cX6_readNumber 104 = .ok (.iload_n 1, 1) := by decide +kernel
theorem dX6_readNumber_105 : decode cX6_readNumber 105 = .ok (.if_icmp .le 11, 3) := by decide +kernel
theorem dX6_readNumber_108 : decode cX6_readNumber 108 = .ok (.aload_n 0, 1) := by decide +kernel
theorem dX6_readNumber_109 : decode cX6_readNumber 109 = .ok (.iload_n 2, 1) := by decide +kernel
theorem dX6_readNumber_110 : decode cX6_readNumber 110 = .ok (.invokevirtual 73, 3) := by decide +kernel
theorem dX6_readNumber_113 : decode cX6_readNumber 113 = .ok (.pop, 1) := by decide +kernel
theorem dX6_readNumber_114 : decode cX6_readNumber 114 = .ok (.iconst (-1), 1) := by decide +kernel
theorem dX6_readNumber_115 : decode cX6_readNumber 115 = .ok (.ireturn, 1) := by decide +kernel
theorem dX6_readNumber_116 : decode cX6_readNumber 116 = .ok (.iload_n 3, 1) := by decide +kernel
theorem dX6_readNumber_117 : decode cX6_readNumber 117 = .ok (.ireturn, 1) := by decide +kernel
set_option maxRecDepth 20000 in
theorem ggX6_readDigit_X6_look : GoodIn wsX6_readDigit wsX6_look := goodIn_r _ [6, 1, 7, 8, 14, 15, 16, 17] (by decide +kernel) (by decide +kernel)
set_option maxRecDepth 20000 in
theorem gX6_readDigit_X6_look : GoodIn wsX6_readDigit (wsV RX6 41 RX6 yX6_look wsX6_look) := goodIn_app (goodIn_of _ (by decide +kernel)) ggX6_readDigit_X6_look
set_option maxRecDepth 20000 in
theorem ggX6_readDigit_X6_failAt : GoodIn wsX6_readDigit wsX6_failAt := goodIn_r _ [12, 13, 14, 15, 16, 17] (by decide +kernel) (by decide +kernel)
set_option maxRecDepth 20000 in
theorem gX6_readDigit_X6_failAt : GoodIn wsX6_readDigit (wsV RX6 73 RX6 yX6_failAt wsX6_failAt) := goodIn_app (goodIn_of _ (by decide +kernel)) ggX6_readDigit_X6_failAt
theorem dX6_readDigit_0 : decode cX6_readDigit 0 = .ok (.aload_n 0, 1) := by decide +kernel
theorem dX6_readDigit_1 : decode cX6_readDigit 1 = .ok (.invokevirtual 41, 3) := by decide +kernel
theorem dX6_readDigit_4 : decode cX6_readDigit 4 = .ok (.bipush 48, 2) := by decide +kernel
theorem dX6_readDigit_6 : decode cX6_readDigit 6 = .ok (.isub, 1) := by decide +kernel
theorem dX6_readDigit_7 : decode cX6_readDigit 7 = .ok (.istore_n 3, 1) := by decide +kernel
theorem dX6_readDigit_8 : decode cX6_readDigit 8 = .ok (.iload_n 3, 1) := by decide +kernel
theorem dX6_readDigit_9 : decode cX6_readDigit 9 = .ok (.iload_n 1, 1) := by decide +kernel
theorem dX6_readDigit_10 : decode cX6_readDigit 10 = .ok (.if_icmp .lt 8, 3) := by decide +kernel
theorem dX6_readDigit_13 : decode cX6_readDigit 13 = .ok (.iload_n 3, 1) := by decide +kernel
theorem dX6_readDigit_14 : decode cX6_readDigit 14 = .ok (.iload_n 2, 1) := by decide +kernel
theorem dX6_readDigit_15 : decode cX6_readDigit 15 = .ok (.if_icmp .le 14, 3) := by decide +kernel
theorem dX6_readDigit_18 : decode cX6_readDigit 18 = .ok (.aload_n 0, 1) := by decide +kernel
theorem dX6_readDigit_19 : decode cX6_readDigit 19 = .ok (.aload_n 0, 1) := by decide +kernel
theorem dX6_readDigit_20 : decode cX6_readDigit 20 = .ok (.getfield 24, 3) := by decide +kernel
theorem dX6_readDigit_23 : decode cX6_readDigit 23 = .ok (.invokevirtual 73, 3) := by decide +kernel
theorem dX6_readDigit_26 : decode cX6_readDigit 26 = .ok (.pop, 1) := by decide +kernel
theorem dX6_readDigit_27 : decode cX6_readDigit 27 = .ok (.iconst (-1), 1) := by decide +kernel
theorem dX6_readDigit_28 : decode cX6_readDigit 28 = .ok (.ireturn, 1) := by decide +kernel
theorem dX6_readDigit_29 : decode cX6_readDigit 29 = .ok (.aload_n 0, 1) := by decide +kernel
theorem dX6_readDigit_30 : decode cX6_readDigit 30 = .ok (.dup, 1) := by decide +kernel
theorem dX6_readDigit_31 : decode cX6_readDigit 31 = .ok (.getfield 24, 3) := by decide +kernel
theorem dX6_readDigit_34 : decode cX6_readDigit 34 = .ok (.iconst 1, 1) := by decide +kernel
theorem dX6_readDigit_35 : decode cX6_readDigit 35 = .ok (.iadd, 1) := by decide +kernel
theorem dX6_readDigit_36 : decode cX6_readDigit 36 = .ok (.putfield 24, 3) := by decide +kernel
theorem dX6_readDigit_39 : decode cX6_readDigit 39 = .ok (.iload_n 3, 1) := by decide +kernel
theorem dX6_readDigit_40 : decode cX6_readDigit 40 = .ok (.ireturn, 1) := by decide +kernel
set_option maxRecDepth 20000 in
theorem ggX6_accept_X6_look : GoodIn wsX6_accept wsX6_look := goodIn_r _ [6, 1, 7, 8, 9, 10, 11, 12] (by decide +kernel) (by decide +kernel)
set_option maxRecDepth 20000 in
theorem gX6_accept_X6_look : GoodIn wsX6_accept (wsV RX6 41 RX6 yX6_look wsX6_look) := goodIn_app (goodIn_of _ (by decide +kernel)) ggX6_accept_X6_look
theorem dX6_accept_0 : decode cX6_accept 0 = .ok (.aload_n 0, 1) := by decide +kernel
theorem dX6_accept_1 : decode cX6_accept 1 = .ok (.invokevirtual 41, 3) := by decide +kernel
theorem dX6_accept_4 : decode cX6_accept 4 = .ok (.iload_n 1, 1) := by decide +kernel
theorem dX6_accept_5 : decode cX6_accept 5 = .ok (.if_icmp .eq 5, 3) := by decide +kernel
theorem dX6_accept_8 : decode cX6_accept 8 = .ok (.iconst 0, 1) := by decide +kernel
theorem dX6_accept_9 : decode cX6_accept 9 = .ok (.ireturn, 1) := by decide +kernel
theorem dX6_accept_10 : decode cX6_accept 10 = .ok (.aload_n 0, 1) := by decide +kernel
theorem dX6_accept_11 : decode cX6_accept 11 = .ok (.dup, 1) := by decide +kernel
theorem dX6_accept_12 : decode cX6_accept 12 = .ok (.getfield 24, 3) := by decide +kernel
theorem dX6_accept_15 : decode cX6_accept 15 = .ok (.iconst 1, 1) := by decide +kernel
theorem dX6_accept_16 : decode cX6_accept 16 = .ok (.iadd, 1) := by decide +kernel
theorem dX6_accept_17 : decode cX6_accept 17 = .ok (.putfield 24, 3) := by decide +kernel
theorem dX6_accept_20 : decode cX6_accept 20 = .ok (.iconst 1, 1) := by decide +kernel
theorem dX6_accept_21 : decode cX6_accept 21 = .ok (.ireturn, 1) := by decide +kernel
set_option maxRecDepth 20000 in
theorem ggX6_expect_X6_accept : GoodIn wsX6_expect wsX6_accept := goodIn_r _ [6, 1, 7, 8, 9, 5, 10, 11, 12, 18, 19, 20, 21] (by decide +kernel) (by decide +kernel)
set_option maxRecDepth 20000 in
theorem gX6_expect_X6_accept : GoodIn wsX6_expect (wsV RX6 34 RX6 yX6_accept wsX6_accept) := goodIn_app (goodIn_of _ (by decide +kernel)) ggX6_expect_X6_accept
set_option maxRecDepth 20000 in
theorem ggX6_expect_X6_failAt : GoodIn wsX6_expect wsX6_failAt := goodIn_r _ [16, 17, 18, 19, 20, 21] (by decide +kernel) (by decide +kernel)
set_option maxRecDepth 20000 in
theorem gX6_expect_X6_failAt : GoodIn wsX6_expect (wsV RX6 73 RX6 yX6_failAt wsX6_failAt) := goodIn_app (goodIn_of _ (by decide +kernel)) ggX6_expect_X6_failAt
theorem dX6_expect_0 : decode cX6_expect 0 = .ok (.aload_n 0, 1) := by decide +kernel
theorem dX6_expect_1 : decode cX6_expect 1 = .ok (.iload_n 1, 1) := by decide +kernel
theorem dX6_expect_2 : decode cX6_expect 2 = .ok (.invokevirtual 34, 3) := by decide +kernel
theorem dX6_expect_5 : decode cX6_expect 5 = .ok (.ifCond .ne 14, 3) := by decide +kernel
theorem dX6_expect_8 : decode cX6_expect 8 = .ok (.aload_n 0, 1) := by decide +kernel
theorem dX6_expect_9 : decode cX6_expect 9 = .ok (.aload_n 0, 1) := by decide +kernel
theorem dX6_expect_10 : decode cX6_expect 10 = .ok (.getfield 24, 3) := by decide +kernel
theorem dX6_expect_13 : decode cX6_expect 13 = .ok (.invokevirtual 73, 3) := by decide +kernel
theorem dX6_expect_16 : decode cX6_expect 16 = .ok (.ifCond .eq 7, 3) := by decide +kernel
theorem dX6_expect_19 : decode cX6_expect 19 = .ok (.iconst 1, 1) := by decide +kernel
theorem dX6_expect_20 : decode cX6_expect 20 = .ok (.goto 4, 3) := by decide +kernel
theorem dX6_expect_23 : decode cX6_expect 23 = .ok (.iconst 0, 1) := by decide +kernel
theorem dX6_expect_24 : decode cX6_expect 24 = .ok (.ireturn, 1) := by decide +kernel
theorem dX6_failAt_0 : decode cX6_failAt 0 = .ok (.aload_n 0, 1) := by decide +kernel
theorem dX6_failAt_1 : decode cX6_failAt 1 = .ok (.iload_n 1, 1) := by decide +kernel
theorem dX6_failAt_2 : decode cX6_failAt 2 = .ok (.putfield 27, 3) := by decide +kernel
theorem dX6_failAt_5 : decode cX6_failAt 5 = .ok (.iconst 0, 1) := by decide +kernel
theorem dX6_failAt_6 : decode cX6_failAt 6 = .ok (.ireturn, 1) := by decide +kernel
theorem dX6_look_0 : decode cX6_look 0 = .ok (.aload_n 0, 1) := by decide +kernel
theorem dX6_look_1 : decode cX6_look 1 = .ok (.getfield 24, 3) := by decide +kernel
theorem dX6_look_4 : decode cX6_look 4 = .ok (.aload_n 0, 1) := by decide +kernel
theorem dX6_look_5 : decode cX6_look 5 = .ok (.getfield 15, 3) := by decide +kernel
theorem dX6_look_8 : decode cX6_look 8 = .ok (.if_icmp .ge 30, 3) := by decide +kernel
theorem dX6_look_11 : decode cX6_look 11 = .ok (.aload_n 0, 1) := by decide +kernel
theorem dX6_look_12 : decode cX6_look 12 = .ok (.getfield 9, 3) := by decide +kernel
theorem dX6_look_15 : decode cX6_look 15 = .ok (.aload_n 0, 1) := by decide +kernel
theorem dX6_look_16 : decode cX6_look 16 = .ok (.getfield 24, 3) := by decide +kernel
theorem dX6_look_19 : decode cX6_look 19 = .ok (.iaload, 1) := by decide +kernel
theorem dX6_look_20 : decode cX6_look 20 = .ok (.bipush 32, 2) := by decide +kernel
theorem dX6_look_22 : decode cX6_look 22 = .ok (.if_icmp .ne 16, 3) := by decide +kernel
theorem dX6_look_25 : decode cX6_look 25 = .ok (.aload_n 0, 1) := by decide +kernel
theorem dX6_look_26 : decode cX6_look 26 = .ok (.dup, 1) := by decide +kernel
theorem dX6_look_27 : decode cX6_look 27 = .ok (.getfield 24, 3) := by decide +kernel
theorem dX6_look_30 : decode cX6_look 30 = .ok (.iconst 1, 1) := by decide +kernel
theorem dX6_look_31 : decode cX6_look 31 = .ok (.iadd, 1) := by decide +kernel
theorem dX6_look_32 : decode cX6_look 32 = .ok (.putfield 24, 3) := by decide +kernel
theorem dX6_look_35 : decode cX6_look 35 = .ok (.goto (-35), 3) := by decide +kernel
theorem dX6_look_38 : decode cX6_look 38 = .ok (.aload_n 0, 1) := by decide +kernel
theorem dX6_look_39 : decode cX6_look 39 = .ok (.getfield 24, 3) := by decide +kernel
theorem dX6_look_42 : decode cX6_look 42 = .ok (.aload_n 0, 1) := by decide +kernel
theorem dX6_look_43 : decode cX6_look 43 = .ok (.getfield 15, 3) := by decide +kernel
theorem dX6_look_46 : decode cX6_look 46 = .ok (.if_icmp .ge 15, 3) := by decide +kernel
theorem dX6_look_49 : decode cX6_look 49 = .ok (.aload_n 0, 1) := by decide +kernel
theorem dX6_look_50 : decode cX6_look 50 = .ok (.getfield 9, 3) := by decide +kernel
theorem dX6_look_53 : decode cX6_look 53 = .ok (.aload_n 0, 1) := by decide +kernel
theorem dX6_look_54 : decode cX6_look 54 = .ok (.getfield 24, 3) := by decide +kernel
theorem dX6_look_57 : decode cX6_look 57 = .ok (.iaload, 1) := by decide +kernel
theorem dX6_look_58 : decode cX6_look 58 = .ok (.goto 4, 3) := by decide +kernel
theorem dX6_look_61 : decode cX6_look 61 = .ok (.iconst (-1), 1) := by decide +kernel
theorem dX6_look_62 : decode cX6_look 62 = .ok (.ireturn, 1) := by decide +kernel
theorem dX6_isDigit_0 : decode cX6_isDigit 0 = .ok (.iload_n 0, 1) := by decide +kernel
theorem dX6_isDigit_1 : decode cX6_isDigit 1 = .ok (.bipush 48, 2) := by decide +kernel
theorem dX6_isDigit_3 : decode cX6_isDigit 3 = .ok (.if_icmp .lt 13, 3) := by decide +kernel
theorem dX6_isDigit_6 : decode cX6_isDigit 6 = .ok (.iload_n 0, 1) := by decide +kernel
theorem dX6_isDigit_7 : decode cX6_isDigit 7 = .ok (.bipush 57, 2) := by decide +kernel
theorem dX6_isDigit_9 : decode cX6_isDigit 9 = .ok (.if_icmp .gt 7, 3) := by decide +kernel
theorem dX6_isDigit_12 : decode cX6_isDigit 12 = .ok (.iconst 1, 1) := by decide +kernel
theorem dX6_isDigit_13 : decode cX6_isDigit 13 = .ok (.goto 4, 3) := by decide +kernel
theorem dX6_isDigit_16 : decode cX6_isDigit 16 = .ok (.iconst 0, 1) := by decide +kernel
theorem dX6_isDigit_17 : decode cX6_isDigit 17 = .ok (.ireturn, 1) := by decide +kernel
set_option maxRecDepth 20000 in
theorem ggX7_init_X2_init : GoodIn wsX7_init wsX2_init := goodIn_r _ [38, 39, 2, 3, 40, 33, 41, 42, 43, 44, 45, 46, 47, 78, 79, 80, 81, 82, 83, 84, 85, 86, 87, 88, 89] (by decide +kernel) (by decide +kernel)
set_option maxRecDepth 20000 in
theorem gX7_init_X2_init_n9 : GoodIn wsX7_init (wsX2_init) := ggX7_init_X2_init
set_option maxRecDepth 20000 in
theorem ggX7_init_X0_init : GoodIn wsX7_init wsX0_init := goodIn_r _ [50, 51, 2, 3, 52, 53, 5, 6, 37, 38, 39, 40, 33, 41, 42, 43, 44, 45, 46, 47, 102, 103, 104, 78, 79, 80, 81, 82, 83, 84, 85, 86, 87, 88, 89] (by decide +kernel) (by decide +kernel)
set_option maxRecDepth 20000 in
theorem gX7_init_X0_init : GoodIn wsX7_init (wsX0_init) := ggX7_init_X0_init
set_option maxRecDepth 20000 in
theorem ggX7_init_X6_init : GoodIn wsX7_init wsX6_init := goodIn_r _ [55, 56, 2, 3, 33, 57, 105, 106, 107, 108] (by decide +kernel) (by decide +kernel)
set_option maxRecDepth 20000 in
theorem gX7_init_X6_init_n31 : GoodIn wsX7_init (wsX6_init) := ggX7_init_X6_init
set_option maxRecDepth 20000 in
theorem ggX7_init_X4_init : GoodIn wsX7_init wsX4_init := goodIn_r _ [59, 60, 2, 3, 33, 61, 62, 63, 64, 109, 110, 111, 112, 113, 114] (by decide +kernel) (by decide +kernel)
set_option maxRecDepth 20000 in
theorem gX7_init_X4_init_n47 : GoodIn wsX7_init (wsX4_init) := ggX7_init_X4_init
set_option maxRecDepth 20000 in
theorem ggX7_init_X3_init : GoodIn wsX7_init wsX3_init := goodIn_r _ [66, 67, 2, 3, 33, 68, 69, 115, 116, 117, 118] (by decide +kernel) (by decide +kernel)
set_option maxRecDepth 20000 in
theorem gX7_init_X3_init_n54 : GoodIn wsX7_init (wsX3_init) := ggX7_init_X3_init
set_option maxRecDepth 20000 in
theorem ggX7_init_X1_init : GoodIn wsX7_init wsX1_init := goodIn_r _ [71, 72, 2, 3] (by decide +kernel) (by decide +kernel)
set_option maxRecDepth 20000 in
theorem gX7_init_X1_init_n61 : GoodIn wsX7_init (wsX1_init) := ggX7_init_X1_init
set_option maxRecDepth 20000 in
theorem ggX7_init_X5_init : GoodIn wsX7_init wsX5_init := goodIn_r _ [74, 75, 2, 3, 76, 77, 123, 124, 125, 126] (by decide +kernel) (by decide +kernel)
set_option maxRecDepth 20000 in
theorem gX7_init_X5_init_n70 : GoodIn wsX7_init (wsX5_init) := ggX7_init_X5_init
theorem dX7_init_0 : decode cX7_init 0 = .ok (.aload_n 0, 1) := by decide +kernel
theorem dX7_init_1 : decode cX7_init 1 = .ok (.invokespecial 1, 3) := by decide +kernel
theorem dX7_init_4 : decode cX7_init 4 = .ok (.aload_n 0, 1) := by decide +kernel
theorem dX7_init_5 : decode cX7_init 5 = .ok (.new 7, 3) := by decide +kernel
theorem dX7_init_8 : decode cX7_init 8 = .ok (.dup, 1) := by decide +kernel
theorem dX7_init_9 : decode cX7_init 9 = .ok (.invokespecial 9, 3) := by decide +kernel
theorem dX7_init_12 : decode cX7_init 12 = .ok (.putfield 10, 3) := by decide +kernel
theorem dX7_init_15 : decode cX7_init 15 = .ok (.aload_n 0, 1) := by decide +kernel
theorem dX7_init_16 : decode cX7_init 16 = .ok (.new 16, 3) := by decide +kernel
theorem dX7_init_19 : decode cX7_init 19 = .ok (.dup, 1) := by decide +kernel
theorem dX7_init_20 : decode cX7_init 20 = .ok (.invokespecial 18, 3) := by decide +kernel
theorem dX7_init_23 : decode cX7_init 23 = .ok (.putfield 19, 3) := by decide +kernel
theorem dX7_init_26 : decode cX7_init 26 = .ok (.aload_n 0, 1) := by decide +kernel
theorem dX7_init_27 : decode cX7_init 27 = .ok (.new 7, 3) := by decide +kernel
theorem dX7_init_30 : decode cX7_init 30 = .ok (.dup, 1) := by decide +kernel
theorem dX7_init_31 : decode cX7_init 31 = .ok (.invokespecial 9, 3) := by decide +kernel
theorem dX7_init_34 : decode cX7_init 34 = .ok (.putfield 23, 3) := by decide +kernel
theorem dX7_init_37 : decode cX7_init 37 = .ok (.aload_n 0, 1) := by decide +kernel
theorem dX7_init_38 : decode cX7_init 38 = .ok (.new 16, 3) := by decide +kernel
theorem dX7_init_41 : decode cX7_init 41 = .ok (.dup, 1) := by decide +kernel
theorem dX7_init_42 : decode cX7_init 42 = .ok (.invokespecial 18, 3) := by decide +kernel
theorem dX7_init_45 : decode cX7_init 45 = .ok (.putfield 26, 3) := by decide +kernel
theorem dX7_init_48 : decode cX7_init 48 = .ok (.aload_n 0, 1) := by decide +kernel
theorem dX7_init_49 : decode cX7_init 49 = .ok (.new 29, 3) := by decide +kernel
theorem dX7_init_52 : decode cX7_init 52 = .ok (.dup, 1) := by decide +kernel
theorem dX7_init_53 : decode cX7_init 53 = .ok (.invokespecial 31, 3) := by decide +kernel
theorem dX7_init_56 : decode cX7_init 56 = .ok (.putfield 32, 3) := by decide +kernel
theorem dX7_init_59 : decode cX7_init 59 = .ok (.aload_n 0, 1) := by decide +kernel
theorem dX7_init_60 : decode cX7_init 60 = .ok (.iconst 4, 1) := by decide +kernel
theorem dX7_init_61 : decode cX7_init 61 = .ok (.anewarray 36, 3) := by decide +kernel
theorem dX7_init_64 : decode cX7_init 64 = .ok (.putfield 38, 3) := by decide +kernel
theorem dX7_init_67 : decode cX7_init 67 = .ok (.aload_n 0, 1) := by decide +kernel
theorem dX7_init_68 : decode cX7_init 68 = .ok (.new 7, 3) := by decide +kernel
theorem dX7_init_71 : decode cX7_init 71 = .ok (.dup, 1) := by decide +kernel
theorem dX7_init_72 : decode cX7_init 72 = .ok (.invokespecial 9, 3) := by decide +kernel
theorem dX7_init_75 : decode cX7_init 75 = .ok (.putfield 42, 3) := by decide +kernel
theorem dX7_init_78 : decode cX7_init 78 = .ok (.aload_n 0, 1) := by decide +kernel
theorem dX7_init_79 : decode cX7_init 79 = .ok (.new 45, 3) := by decide +kernel
theorem dX7_init_82 : decode cX7_init 82 = .ok (.dup, 1) := by decide +kernel
theorem dX7_init_83 : decode cX7_init 83 = .ok (.invokespecial 47, 3) := by decide +kernel
theorem dX7_init_86 : decode cX7_init 86 = .ok (.putfield 48, 3) := by decide +kernel
theorem dX7_init_89 : decode cX7_init 89 = .ok (.aload_n 0, 1) := by decide +kernel
theorem dX7_init_90 : decode cX7_init 90 = .ok (.new 52, 3) := by decide +kernel
theorem dX7_init_93 : decode cX7_init 93 = .ok (.dup, 1) := by decide +kernel
theorem dX7_init_94 : decode cX7_init 94 = .ok (.invokespecial 54, 3) := by decide +kernel
theorem dX7_init_97 : decode cX7_init 97 = .ok (.putfield 55, 3) := by decide +kernel
theorem dX7_init_100 : decode cX7_init 100 = .ok (.aload_n 0, 1) := by decide +kernel
theorem dX7_init_101 : decode cX7_init 101 = .ok (.new 59, 3) := by decide +kernel
theorem dX7_init_104 : decode cX7_init 104 = .ok (.dup, 1) := by decide +kernel
theorem dX7_init_105 : decode cX7_init 105 = .ok (.invokespecial 61, 3) := by decide +kernel
theorem dX7_init_108 : decode cX7_init 108 = .ok (.putfield 62, 3) := by decide +kernel
theorem dX7_init_111 : decode cX7_init 111 = .ok (.aload_n 0, 1) := by decide +kernel
theorem dX7_init_112 : decode cX7_init 112 = .ok (.bipush 100, 2) := by decide +kernel
theorem dX7_init_114 : decode cX7_init 114 = .ok (.newarray .int, 2) := by decide +kernel
theorem dX7_init_116 : decode cX7_init 116 = .ok (.putfield 66, 3) := by decide +kernel
theorem dX7_init_119 : decode cX7_init 119 = .ok (.iconst 0, 1) := by decide +kernel
theorem dX7_init_120 : decode cX7_init 120 = .ok (.istore_n 1, 1) := by decide +kernel
theorem dX7_init_121 : decode cX7_init 121 = .ok (.iload_n 1, 1) := by decide +kernel
theorem dX7_init_122 : decode cX7_init 122 = .ok (.iconst 4, 1) := by decide +kernel
theorem dX7_init_123 : decode cX7_init 123 = .ok (.if_icmp .ge 22, 3) := by decide +kernel
theorem dX7_init_126 : decode cX7_init 126 = .ok (.aload_n 0, 1) := by decide +kernel
theorem dX7_init_127 : decode cX7_init 127 = .ok (.getfield 38, 3) := by decide +kernel
theorem dX7_init_130 : decode cX7_init 130 = .ok (.iload_n 1, 1) := by decide +kernel
theorem dX7_init_131 : decode cX7_init 131 = .ok (.new 36, 3) := by decide +kernel
theorem dX7_init_134 : decode cX7_init 134 = .ok (.dup, 1) := by decide +kernel
theorem dX7_init_135 : decode cX7_init 135 = .ok (.invokespecial 70, 3) := by decide +kernel
theorem dX7_init_138 : decode cX7_init 138 = .ok (.aastore, 1) := by decide +kernel
theorem dX7_init_139 : decode cX7_init 139 = .ok (.iinc 1 1, 3) := by decide +kernel
theorem dX7_init_142 : decode cX7_init 142 = .ok (.goto (-21), 3) := by decide +kernel
theorem dX7_init_145 : decode cX7_init 145 = .ok (.return_, 1) := by decide +kernel
set_option maxRecDepth 20000 in
theorem ggX7_mark_X7_within : GoodIn wsX7_mark wsX7_within := goodIn_r _ [7] (by decide +kernel) (by decide +kernel)
set_option maxRecDepth 20000 in
theorem gX7_mark_X7_within : GoodIn wsX7_mark (va_wsS RX7 71 yX7_within wsX7_within) := goodIn_app (goodIn_of _ (by decide +kernel)) ggX7_mark_X7_within
set_option maxRecDepth 20000 in
theorem ggX7_mark_X0_forget : GoodIn wsX7_mark wsX0_forget := goodIn_r _ [12, 13, 48, 49, 50] (by decide +kernel) (by decide +kernel)
set_option maxRecDepth 20000 in
theorem gX7_mark_X0_forget : GoodIn wsX7_mark (wsV RX7 79 RX0 yX0_forget wsX0_forget) := goodIn_app (goodIn_of _ (by decide +kernel)) ggX7_mark_X0_forget
set_option maxRecDepth 20000 in
theorem ggX7_mark_X2_addMark : GoodIn wsX7_mark wsX2_addMark := goodIn_r _ [18, 19, 20, 21, 22, 23, 36, 37, 38, 39, 40, 41, 42, 43, 44, 45, 46, 47] (by decide +kernel) (by decide +kernel)
set_option maxRecDepth 20000 in
theorem gX7_mark_X2_addMark : GoodIn wsX7_mark (wsV RX7 82 RX2 yX2_addMark wsX2_addMark) := goodIn_app (goodIn_of _ (by decide +kernel)) ggX7_mark_X2_addMark
theorem dX7_mark_0 : decode cX7_mark 0 = .ok (.iload_n 1, 1) := by decide +kernel
theorem dX7_mark_1 : decode cX7_mark 1 = .ok (.iconst 0, 1) := by decide +kernel
theorem dX7_mark_2 : decode cX7_mark 2 = .ok (.bipush 60, 2) := by decide +kernel
theorem dX7_mark_4 : decode cX7_mark 4 = .ok (.invokestatic 71, 3) := by decide +kernel
theorem dX7_mark_7 : decode cX7_mark 7 = .ok (.ifCond .eq 23, 3) := by decide +kernel
theorem dX7_mark_10 : decode cX7_mark 10 = .ok (.iload_n 2, 1) := by decide +kernel
theorem dX7_mark_11 : decode cX7_mark 11 = .ok (.iconst 1, 1) := by decide +kernel
theorem dX7_mark_12 : decode cX7_mark 12 = .ok (.bipush 9, 2) := by decide +kernel
theorem dX7_mark_14 : decode cX7_mark 14 = .ok (.invokestatic 71, 3) := by decide +kernel
theorem dX7_mark_17 : decode cX7_mark 17 = .ok (.ifCond .eq 13, 3) := by decide +kernel
theorem dX7_mark_20 : decode cX7_mark 20 = .ok (.iload_n 3, 1) := by decide +kernel
theorem dX7_mark_21 : decode cX7_mark 21 = .ok (.iconst 0, 1) := by decide +kernel
theorem dX7_mark_22 : decode cX7_mark 22 = .ok (.bipush 60, 2) := by decide +kernel
theorem dX7_mark_24 : decode cX7_mark 24 = .ok (.invokestatic 71, 3) := by decide +kernel
theorem dX7_mark_27 : decode cX7_mark 27 = .ok (.ifCond .ne 5, 3) := by decide +kernel
theorem dX7_mark_30 : decode cX7_mark 30 = .ok (.iconst (-1), 1) := by decide +kernel
theorem dX7_mark_31 : decode cX7_mark 31 = .ok (.ireturn, 1) := by decide +kernel
theorem dX7_mark_32 : decode cX7_mark 32 = .ok (.aload_n 0, 1) := by decide +kernel
theorem dX7_mark_33 : decode cX7_mark 33 = .ok (.getfield 10, 3) := by decide +kernel
theorem dX7_mark_36 : decode cX7_mark 36 = .ok (.getfield 75, 3) := by decide +kernel
theorem dX7_mark_39 : decode cX7_mark 39 = .ok (.bipush 6, 2) := by decide +kernel
theorem dX7_mark_41 : decode cX7_mark 41 = .ok (.if_icmp .lt 6, 3) := by decide +kernel
theorem dX7_mark_44 : decode cX7_mark 44 = .ok (.bipush (-3), 2) := by decide +kernel
theorem dX7_mark_46 : decode cX7_mark 46 = .ok (.ireturn, 1) := by decide +kernel
theorem dX7_mark_47 : decode cX7_mark 47 = .ok (.aload_n 0, 1) := by decide +kernel
theorem dX7_mark_48 : decode cX7_mark 48 = .ok (.getfield 19, 3) := by decide +kernel
theorem dX7_mark_51 : decode cX7_mark 51 = .ok (.invokevirtual 79, 3) := by decide +kernel
theorem dX7_mark_54 : decode cX7_mark 54 = .ok (.aload_n 0, 1) := by decide +kernel
theorem dX7_mark_55 : decode cX7_mark 55 = .ok (.getfield 10, 3) := by decide +kernel
theorem dX7_mark_58 : decode cX7_mark 58 = .ok (.iload_n 1, 1) := by decide +kernel
theorem dX7_mark_59 : decode cX7_mark 59 = .ok (.iload_n 2, 1) := by decide +kernel
theorem dX7_mark_60 : decode cX7_mark 60 = .ok (.iload_n 3, 1) := by decide +kernel
theorem dX7_mark_61 : decode cX7_mark 61 = .ok (.invokevirtual 82, 3) := by decide +kernel
theorem dX7_mark_64 : decode cX7_mark 64 = .ok (.ireturn, 1) := by decide +kernel
set_option maxRecDepth 20000 in
theorem ggX7_monk_X7_within : GoodIn wsX7_monk wsX7_within := goodIn_r _ [7] (by decide +kernel) (by decide +kernel)
set_option maxRecDepth 20000 in
theorem gX7_monk_X7_within : GoodIn wsX7_monk (va_wsS RX7 71 yX7_within wsX7_within) := goodIn_app (goodIn_of _ (by decide +kernel)) ggX7_monk_X7_within
set_option maxRecDepth 20000 in
theorem ggX7_monk_X0_forget : GoodIn wsX7_monk wsX0_forget := goodIn_r _ [12, 13, 47, 48, 49] (by decide +kernel) (by decide +kernel)
set_option maxRecDepth 20000 in
theorem gX7_monk_X0_forget : GoodIn wsX7_monk (wsV RX7 79 RX0 yX0_forget wsX0_forget) := goodIn_app (goodIn_of _ (by decide +kernel)) ggX7_monk_X0_forget
set_option maxRecDepth 20000 in
theorem ggX7_monk_X2_addMonk : GoodIn wsX7_monk wsX2_addMonk := goodIn_r _ [18, 19, 20, 21, 22, 35, 36, 37, 38, 39, 40, 41, 42, 43, 44, 45, 46] (by decide +kernel) (by decide +kernel)
set_option maxRecDepth 20000 in
theorem gX7_monk_X2_addMonk : GoodIn wsX7_monk (wsV RX7 89 RX2 yX2_addMonk wsX2_addMonk) := goodIn_app (goodIn_of _ (by decide +kernel)) ggX7_monk_X2_addMonk
theorem dX7_monk_0 : decode cX7_monk 0 = .ok (.iload_n 1, 1) := by decide +kernel
theorem dX7_monk_1 : decode cX7_monk 1 = .ok (.iconst 0, 1) := by decide +kernel
theorem dX7_monk_2 : decode cX7_monk 2 = .ok (.iconst 4, 1) := by decide +kernel
theorem dX7_monk_3 : decode cX7_monk 3 = .ok (.invokestatic 71, 3) := by decide +kernel
theorem dX7_monk_6 : decode cX7_monk 6 = .ok (.ifCond .eq 13, 3) := by decide +kernel
theorem dX7_monk_9 : decode cX7_monk 9 = .ok (.iload_n 2, 1) := by decide +kernel
theorem dX7_monk_10 : decode cX7_monk 10 = .ok (.iconst 0, 1) := by decide +kernel
theorem dX7_monk_11 : decode cX7_monk 11 = .ok (.bipush 99, 2) := by decide +kernel
theorem dX7_monk_13 : decode cX7_monk 13 = .ok (.invokestatic 71, 3) := by decide +kernel
theorem dX7_monk_16 : decode cX7_monk 16 = .ok (.ifCond .ne 5, 3) := by decide +kernel
theorem dX7_monk_19 : decode cX7_monk 19 = .ok (.iconst (-1), 1) := by decide +kernel
theorem dX7_monk_20 : decode cX7_monk 20 = .ok (.ireturn, 1) := by decide +kernel
theorem dX7_monk_21 : decode cX7_monk 21 = .ok (.aload_n 0, 1) := by decide +kernel
theorem dX7_monk_22 : decode cX7_monk 22 = .ok (.getfield 10, 3) := by decide +kernel
theorem dX7_monk_25 : decode cX7_monk 25 = .ok (.getfield 86, 3) := by decide +kernel
theorem dX7_monk_28 : decode cX7_monk 28 = .ok (.iconst 5, 1) := by decide +kernel
theorem dX7_monk_29 : decode cX7_monk 29 = .ok (.if_icmp .lt 6, 3) := by decide +kernel
theorem dX7_monk_32 : decode cX7_monk 32 = .ok (.bipush (-3), 2) := by decide +kernel
theorem dX7_monk_34 : decode cX7_monk 34 = .ok (.ireturn, 1) := by decide +kernel
theorem dX7_monk_35 : decode cX7_monk 35 = .ok (.aload_n 0, 1) := by decide +kernel
theorem dX7_monk_36 : decode cX7_monk 36 = .ok (.getfield 19, 3) := by decide +kernel
theorem dX7_monk_39 : decode cX7_monk 39 = .ok (.invokevirtual 79, 3) := by decide +kernel
theorem dX7_monk_42 : decode cX7_monk 42 = .ok (.aload_n 0, 1) := by decide +kernel
theorem dX7_monk_43 : decode cX7_monk 43 = .ok (.getfield 10, 3) := by decide +kernel
theorem dX7_monk_46 : decode cX7_monk 46 = .ok (.iload_n 1, 1) := by decide +kernel
theorem dX7_monk_47 : decode cX7_monk 47 = .ok (.iload_n 2, 1) := by decide +kernel
theorem dX7_monk_48 : decode cX7_monk 48 = .ok (.bipush (-4), 2) := by decide +kernel
theorem dX7_monk_50 : decode cX7_monk 50 = .ok (.invokevirtual 89, 3) := by decide +kernel
theorem dX7_monk_53 : decode cX7_monk 53 = .ok (.ireturn, 1) := by decide +kernel
set_option maxRecDepth 20000 in
theorem ggX7_of_X7_hasMark : GoodIn wsX7_of wsX7_hasMark := goodIn_r _ [10, 1, 11, 30, 31, 32, 33, 34, 35, 36, 37, 38, 39, 40, 41, 42, 43, 44, 45, 46, 47, 48, 49, 50, 51, 52, 53] (by decide +kernel) (by decide +kernel)
set_option maxRecDepth 20000 in
theorem gX7_of_X7_hasMark : GoodIn wsX7_of (wsV RX7 92 RX7 yX7_hasMark wsX7_hasMark) := goodIn_app (goodIn_of _ (by decide +kernel)) ggX7_of_X7_hasMark
set_option maxRecDepth 20000 in
theorem ggX7_of_X2_isGone : GoodIn wsX7_of wsX2_isGone := goodIn_r _ [16, 17, 18, 42, 43, 44, 45, 46, 47, 48, 49, 50, 51, 52, 53] (by decide +kernel) (by decide +kernel)
set_option maxRecDepth 20000 in
theorem gX7_of_X2_isGone : GoodIn wsX7_of (wsV RX7 108 RX2 yX2_isGone wsX2_isGone) := goodIn_app (goodIn_of _ (by decide +kernel)) ggX7_of_X2_isGone
set_option maxRecDepth 20000 in
theorem ggX7_of_X2_isTorn : GoodIn wsX7_of wsX2_isTorn := goodIn_r _ [22, 23, 42, 43, 44, 45, 46, 47, 48, 49, 50, 51, 52, 53] (by decide +kernel) (by decide +kernel)
set_option maxRecDepth 20000 in
theorem gX7_of_X2_isTorn : GoodIn wsX7_of (wsV RX7 111 RX2 yX2_isTorn wsX2_isTorn) := goodIn_app (goodIn_of _ (by decide +kernel)) ggX7_of_X2_isTorn
set_option maxRecDepth 20000 in
theorem ggX7_of_X2_crewOf : GoodIn wsX7_of wsX2_crewOf := goodIn_r _ [27, 28, 29, 42, 43, 44, 45, 46, 47, 48, 49, 50, 51, 52, 53] (by decide +kernel) (by decide +kernel)
set_option maxRecDepth 20000 in
theorem gX7_of_X2_crewOf : GoodIn wsX7_of (wsV RX7 114 RX2 yX2_crewOf wsX2_crewOf) := goodIn_app (goodIn_of _ (by decide +kernel)) ggX7_of_X2_crewOf
theorem dX7_of_0 : decode cX7_of 0 = .ok (.aload_n 0, 1) := by decide +kernel
theorem dX7_of_1 : decode cX7_of 1 = .ok (.iload_n 1, 1) := by decide +kernel
theorem dX7_of_2 : decode cX7_of 2 = .ok (.invokevirtual 92, 3) := by decide +kernel
theorem dX7_of_5 : decode cX7_of 5 = .ok (.ifCond .ne 5, 3) := by decide +kernel
theorem dX7_of_8 : decode cX7_of 8 = .ok (.iconst (-1), 1) := by decide +kernel
theorem dX7_of_9 : decode cX7_of 9 = .ok (.ireturn, 1) := by decide +kernel
theorem dX7_of_10 : decode cX7_of 10 = .ok (.iload_n 2, 1) := by decide +kernel
theorem dX7_of_11 : decode cX7_of 11 = .ok (.tableswitch 124 0 6 #[41, 51, 61, 71, 81, 98, 115], 41) := by decide +kernel
theorem dX7_of_52 : decode cX7_of 52 = .ok (.aload_n 0, 1) := by decide +kernel
theorem dX7_of_53 : decode cX7_of 53 = .ok (.getfield 10, 3) := by decide +kernel
theorem dX7_of_56 : decode cX7_of 56 = .ok (.getfield 96, 3) := by decide +kernel
theorem dX7_of_59 : decode cX7_of 59 = .ok (.iload_n 1, 1) := by decide +kernel
theorem dX7_of_60 : decode cX7_of 60 = .ok (.iaload, 1) := by decide +kernel
theorem dX7_of_61 : decode cX7_of 61 = .ok (.ireturn, 1) := by decide +kernel
theorem dX7_of_62 : decode cX7_of 62 = .ok (.aload_n 0, 1) := by decide +kernel
theorem dX7_of_63 : decode cX7_of 63 = .ok (.getfield 10, 3) := by decide +kernel
theorem dX7_of_66 : decode cX7_of 66 = .ok (.getfield 99, 3) := by decide +kernel
theorem dX7_of_69 : decode cX7_of 69 = .ok (.iload_n 1, 1) := by decide +kernel
theorem dX7_of_70 : decode cX7_of 70 = .ok (.iaload, 1) := by decide +kernel
theorem dX7_of_71 : decode cX7_of 71 = .ok (.ireturn, 1) := by decide +kernel
theorem dX7_of_72 : decode cX7_of 72 = .ok (.aload_n 0, 1) := by decide +kernel
theorem dX7_of_73 : decode cX7_of 73 = .ok (.getfield 10, 3) := by decide +kernel
theorem dX7_of_76 : decode cX7_of 76 = .ok (.getfield 102, 3) := by decide +kernel
theorem dX7_of_79 : decode cX7_of 79 = .ok (.iload_n 1, 1) := by decide +kernel
theorem dX7_of_80 : decode cX7_of 80 = .ok (.iaload, 1) := by decide +kernel
theorem dX7_of_81 : decode cX7_of 81 = .ok (.ireturn, 1) := by decide +kernel
theorem dX7_of_82 : decode cX7_of 82 = .ok (.aload_n 0, 1) := by decide +kernel
theorem dX7_of_83 : decode cX7_of 83 = .ok (.getfield 10, 3) := by decide +kernel
theorem dX7_of_86 : decode cX7_of 86 = .ok (.getfield 105, 3) := by decide +kernel
theorem dX7_of_89 : decode cX7_of 89 = .ok (.iload_n 1, 1) := by decide +kernel
theorem dX7_of_90 : decode cX7_of 90 = .ok (.iaload, 1) := by decide +kernel
theorem dX7_of_91 : decode cX7_of 91 = .ok (.ireturn, 1) := by decide +kernel
theorem dX7_of_92 : decode cX7_of 92 = .ok (.aload_n 0, 1) := by decide +kernel
theorem dX7_of_93 : decode cX7_of 93 = .ok (.getfield 10, 3) := by decide +kernel
theorem dX7_of_96 : decode cX7_of 96 = .ok (.iload_n 1, 1) := by decide +kernel
theorem dX7_of_97 : decode cX7_of 97 = .ok (.invokevirtual 108, 3) := by decide +kernel
theorem dX7_of_100 : decode cX7_of 100 = .ok (.ifCond .eq 7, 3) := by decide +kernel
theorem dX7_of_103 : decode cX7_of 103 = .ok (.iconst 1, 1) := by decide +kernel
theorem dX7_of_104 : decode cX7_of 104 = .ok (.goto 4, 3) := by decide +kernel
theorem dX7_of_107 : decode cX7_of 107 = .ok (.iconst 0, 1) := by decide +kernel
theorem dX7_of_108 : decode cX7_of 108 = .ok (.ireturn, 1) := by decide +kernel
theorem dX7_of_109 : decode cX7_of 109 = .ok (.aload_n 0, 1) := by decide +kernel
theorem dX7_of_110 : decode cX7_of 110 = .ok (.getfield 10, 3) := by decide +kernel
theorem dX7_of_113 : decode cX7_of 113 = .ok (.iload_n 1, 1) := by decide +kernel
theorem dX7_of_114 : decode cX7_of 114 = .ok (.invokevirtual 111, 3) := by decide +kernel
theorem dX7_of_117 : decode cX7_of 117 = .ok (.ifCond .eq 7, 3) := by decide +kernel
theorem dX7_of_120 : decode cX7_of 120 = .ok (.iconst 1, 1) := by decide +kernel
theorem dX7_of_121 : decode cX7_of 121 = .ok (.goto 4, 3) := by decide +kernel
theorem dX7_of_124 : decode cX7_of 124 = .ok (.iconst 0, 1) := by decide +kernel
theorem dX7_of_125 : decode cX7_of 125 = .ok (.ireturn, 1) := by decide +kernel
theorem dX7_of_126 : decode cX7_of 126 = .ok (.aload_n 0, 1) := by decide +kernel
theorem dX7_of_127 : decode cX7_of 127 = .ok (.getfield 10, 3) := by decide +kernel
theorem dX7_of_130 : decode cX7_of 130 = .ok (.iload_n 1, 1) := by decide +kernel
theorem dX7_of_131 : decode cX7_of 131 = .ok (.invokevirtual 114, 3) := by decide +kernel
theorem dX7_of_134 : decode cX7_of 134 = .ok (.ireturn, 1) := by decide +kernel
theorem dX7_of_135 : decode cX7_of 135 = .ok (.iconst (-1), 1) := by decide +kernel
theorem dX7_of_136 : decode cX7_of 136 = .ok (.ireturn, 1) := by decide +kernel
set_option maxRecDepth 20000 in
theorem ggX7_at_X7_hasMonk : GoodIn wsX7_at wsX7_hasMonk := goodIn_r _ [9, 1, 10, 11, 12, 13, 14, 15, 16, 17, 18, 19, 20, 21, 22, 23, 24, 25, 26, 27, 28, 29, 30, 31, 32, 33, 34] (by decide +kernel) (by decide +kernel)
set_option maxRecDepth 20000 in
theorem gX7_at_X7_hasMonk : GoodIn wsX7_at (wsV RX7 118 RX7 yX7_hasMonk wsX7_hasMonk) := goodIn_app (goodIn_of _ (by decide +kernel)) ggX7_at_X7_hasMonk
theorem dX7_at_0 : decode cX7_at 0 = .ok (.aload_n 0, 1) := by decide +kernel
theorem dX7_at_1 : decode cX7_at 1 = .ok (.iload_n 1, 1) := by decide +kernel
theorem dX7_at_2 : decode cX7_at 2 = .ok (.invokevirtual 118, 3) := by decide +kernel
theorem dX7_at_5 : decode cX7_at 5 = .ok (.ifCond .ne 5, 3) := by decide +kernel
theorem dX7_at_8 : decode cX7_at 8 = .ok (.iconst (-1), 1) := by decide +kernel
theorem dX7_at_9 : decode cX7_at 9 = .ok (.ireturn, 1) := by decide +kernel
theorem dX7_at_10 : decode cX7_at 10 = .ok (.iload_n 2, 1) := by decide +kernel
theorem dX7_at_11 : decode cX7_at 11 = .ok (.tableswitch 55 0 2 #[25, 35, 45], 25) := by decide +kernel
theorem dX7_at_36 : decode cX7_at 36 = .ok (.aload_n 0, 1) := by decide +kernel
theorem dX7_at_37 : decode cX7_at 37 = .ok (.getfield 10, 3) := by decide +kernel
theorem dX7_at_40 : decode cX7_at 40 = .ok (.getfield 121, 3) := by decide +kernel
theorem dX7_at_43 : decode cX7_at 43 = .ok (.iload_n 1, 1) := by decide +kernel
theorem dX7_at_44 : decode cX7_at 44 = .ok (.iaload, 1) := by decide +kernel
theorem dX7_at_45 : decode cX7_at 45 = .ok (.ireturn, 1) := by decide +kernel
theorem dX7_at_46 : decode cX7_at 46 = .ok (.aload_n 0, 1) := by decide +kernel
theorem dX7_at_47 : decode cX7_at 47 = .ok (.getfield 10, 3) := by decide +kernel
theorem dX7_at_50 : decode cX7_at 50 = .ok (.getfield 124, 3) := by decide +kernel
theorem dX7_at_53 : decode cX7_at 53 = .ok (.iload_n 1, 1) := by decide +kernel
theorem dX7_at_54 : decode cX7_at 54 = .ok (.iaload, 1) := by decide +kernel
theorem dX7_at_55 : decode cX7_at 55 = .ok (.ireturn, 1) := by decide +kernel
theorem dX7_at_56 : decode cX7_at 56 = .ok (.aload_n 0, 1) := by decide +kernel
theorem dX7_at_57 : decode cX7_at 57 = .ok (.getfield 10, 3) := by decide +kernel
theorem dX7_at_60 : decode cX7_at 60 = .ok (.getfield 127, 3) := by decide +kernel
theorem dX7_at_63 : decode cX7_at 63 = .ok (.iload_n 1, 1) := by decide +kernel
theorem dX7_at_64 : decode cX7_at 64 = .ok (.iaload, 1) := by decide +kernel
theorem dX7_at_65 : decode cX7_at 65 = .ok (.ireturn, 1) := by decide +kernel
theorem dX7_at_66 : decode cX7_at 66 = .ok (.iconst (-1), 1) := by decide +kernel
theorem dX7_at_67 : decode cX7_at 67 = .ok (.ireturn, 1) := by decide +kernel
set_option maxRecDepth 20000 in
theorem ggX7_type_X7_within : GoodIn wsX7_type wsX7_within := goodIn_r _ [6] (by decide +kernel) (by decide +kernel)
set_option maxRecDepth 20000 in
theorem gX7_type_X7_within : GoodIn wsX7_type (va_wsS RX7 71 yX7_within wsX7_within) := goodIn_app (goodIn_of _ (by decide +kernel)) ggX7_type_X7_within
set_option maxRecDepth 20000 in
theorem ggX7_type_X6_put : GoodIn wsX7_type wsX6_put := goodIn_r _ [11, 12, 13, 26, 27, 28, 29] (by decide +kernel) (by decide +kernel)
set_option maxRecDepth 20000 in
theorem gX7_type_X6_put : GoodIn wsX7_type (wsV RX7 133 RX6 yX6_put wsX6_put) := goodIn_app (goodIn_of _ (by decide +kernel)) ggX7_type_X6_put
theorem dX7_type_0 : decode cX7_type 0 = .ok (.iload_n 1, 1) := by decide +kernel
theorem dX7_type_1 : decode cX7_type 1 = .ok (.bipush 32, 2) := by decide +kernel
theorem dX7_type_3 : decode cX7_type 3 = .ok (.bipush 126, 2) := by decide +kernel
theorem dX7_type_5 : decode cX7_type 5 = .ok (.invokestatic 71, 3) := by decide +kernel
theorem dX7_type_8 : decode cX7_type 8 = .ok (.ifCond .ne 5, 3) := by decide +kernel
theorem dX7_type_11 : decode cX7_type 11 = .ok (.iconst (-1), 1) := by decide +kernel
theorem dX7_type_12 : decode cX7_type 12 = .ok (.ireturn, 1) := by decide +kernel
theorem dX7_type_13 : decode cX7_type 13 = .ok (.aload_n 0, 1) := by decide +kernel
theorem dX7_type_14 : decode cX7_type 14 = .ok (.getfield 32, 3) := by decide +kernel
theorem dX7_type_17 : decode cX7_type 17 = .ok (.getfield 130, 3) := by decide +kernel
theorem dX7_type_20 : decode cX7_type 20 = .ok (.bipush 90, 2) := by decide +kernel
theorem dX7_type_22 : decode cX7_type 22 = .ok (.if_icmp .lt 6, 3) := by decide +kernel
theorem dX7_type_25 : decode cX7_type 25 = .ok (.bipush (-3), 2) := by decide +kernel
theorem dX7_type_27 : decode cX7_type 27 = .ok (.ireturn, 1) := by decide +kernel
theorem dX7_type_28 : decode cX7_type 28 = .ok (.aload_n 0, 1) := by decide +kernel
theorem dX7_type_29 : decode cX7_type 29 = .ok (.getfield 32, 3) := by decide +kernel
theorem dX7_type_32 : decode cX7_type 32 = .ok (.iload_n 1, 1) := by decide +kernel
theorem dX7_type_33 : decode cX7_type 33 = .ok (.invokevirtual 133, 3) := by decide +kernel
theorem dX7_type_36 : decode cX7_type 36 = .ok (.ireturn, 1) := by decide +kernel
set_option maxRecDepth 20000 in
theorem ggX7_rock_X6_readRock : GoodIn wsX7_rock wsX6_readRock := goodIn_r _ [12, 13, 14, 15, 16, 17, 18, 19, 20, 21, 22, 23, 24, 25, 26, 11, 27, 28, 29, 30, 31, 32, 33, 34, 35, 36, 37, 38, 39, 40, 41, 42, 43, 44, 45, 46, 47, 48, 49, 50, 51, 52, 53, 54, 55, 56, 57, 58, 59, 60, 61, 62, 63, 64, 65, 66, 67, 68, 69, 70, 71, 72, 73, 74, 75, 76, 77, 78, 79, 80, 81, 82, 83, 84, 85, 86, 87, 88, 89, 90, 91, 92, 93, 94, 95, 96, 97, 98, 99, 100, 101, 102, 103, 104, 105, 106, 107, 108, 109, 110, 111, 112, 113, 114, 115, 116, 117, 118, 119, 120, 121, 122, 123, 124, 125, 126, 127, 128, 129, 130, 131, 132, 133, 134, 135, 136, 137, 138, 139, 140, 141, 142, 143, 144, 145, 146, 147, 148, 149, 150, 151, 152, 153, 154, 155, 156, 157, 158, 159, 160, 161, 162, 163, 164, 165, 166, 167, 168, 169, 170, 171, 172, 173, 201, 202, 203, 204, 205, 206, 207, 208, 209, 210, 211, 212, 213, 214, 215, 216] (by decide +kernel) (by decide +kernel)
set_option maxRecDepth 20000 in
theorem gX7_rock_X6_readRock : GoodIn wsX7_rock (wsV RX7 136 RX6 yX6_readRock wsX6_readRock) := goodIn_app (goodIn_of _ (by decide +kernel)) ggX7_rock_X6_readRock
set_option maxRecDepth 20000 in
theorem ggX7_rock_X2_become : GoodIn wsX7_rock wsX2_become := goodIn_r _ [177, 20, 21, 22, 23, 178, 65, 179, 180, 181, 182, 66, 67, 68, 171, 172, 173, 205, 206, 207, 208, 209, 210, 211, 212, 213, 214, 215, 216] (by decide +kernel) (by decide +kernel)
set_option maxRecDepth 20000 in
theorem gX7_rock_X2_become : GoodIn wsX7_rock (wsV RX7 143 RX2 yX2_become wsX2_become) := goodIn_app (goodIn_of _ (by decide +kernel)) ggX7_rock_X2_become
set_option maxRecDepth 20000 in
theorem ggX7_rock_X0_forget : GoodIn wsX7_rock wsX0_forget := goodIn_r _ [187, 188, 217, 218, 219] (by decide +kernel) (by decide +kernel)
set_option maxRecDepth 20000 in
theorem gX7_rock_X0_forget : GoodIn wsX7_rock (wsV RX7 79 RX0 yX0_forget wsX0_forget) := goodIn_app (goodIn_of _ (by decide +kernel)) ggX7_rock_X0_forget
theorem dX7_rock_0 : decode cX7_rock 0 = .ok (.aload_n 0, 1) := by decide +kernel
theorem dX7_rock_1 : decode cX7_rock 1 = .ok (.getfield 32, 3) := by decide +kernel
theorem dX7_rock_4 : decode cX7_rock 4 = .ok (.aload_n 0, 1) := by decide +kernel
theorem dX7_rock_5 : decode cX7_rock 5 = .ok (.getfield 42, 3) := by decide +kernel
theorem dX7_rock_8 : decode cX7_rock 8 = .ok (.invokevirtual 136, 3) := by decide +kernel
theorem dX7_rock_11 : decode cX7_rock 11 = .ok (.istore_n 1, 1) := by decide +kernel
theorem dX7_rock_12 : decode cX7_rock 12 = .ok (.aload_n 0, 1) := by decide +kernel
theorem dX7_rock_13 : decode cX7_rock 13 = .ok (.getfield 32, 3) := by decide +kernel
theorem dX7_rock_16 : decode cX7_rock 16 = .ok (.iconst 0, 1) := by decide +kernel
theorem dX7_rock_17 : decode cX7_rock 17 = .ok (.putfield 130, 3) := by decide +kernel
theorem dX7_rock_20 : decode cX7_rock 20 = .ok (.iload_n 1, 1) := by decide +kernel
theorem dX7_rock_21 : decode cX7_rock 21 = .ok (.ifCond .lt 8, 3) := by decide +kernel
theorem dX7_rock_24 : decode cX7_rock 24 = .ok (.bipush (-20), 2) := by decide +kernel
theorem dX7_rock_26 : decode cX7_rock 26 = .ok (.iload_n 1, 1) := by decide +kernel
theorem dX7_rock_27 : decode cX7_rock 27 = .ok (.isub, 1) := by decide +kernel
theorem dX7_rock_28 : decode cX7_rock 28 = .ok (.ireturn, 1) := by decide +kernel
theorem dX7_rock_29 : decode cX7_rock 29 = .ok (.aload_n 0, 1) := by decide +kernel
theorem dX7_rock_30 : decode cX7_rock 30 = .ok (.getfield 42, 3) := by decide +kernel
theorem dX7_rock_33 : decode cX7_rock 33 = .ok (.aload_n 0, 1) := by decide +kernel
theorem dX7_rock_34 : decode cX7_rock 34 = .ok (.getfield 10, 3) := by decide +kernel
theorem dX7_rock_37 : decode cX7_rock 37 = .ok (.getfield 140, 3) := by decide +kernel
theorem dX7_rock_40 : decode cX7_rock 40 = .ok (.putfield 140, 3) := by decide +kernel
theorem dX7_rock_43 : decode cX7_rock 43 = .ok (.aload_n 0, 1) := by decide +kernel
theorem dX7_rock_44 : decode cX7_rock 44 = .ok (.getfield 10, 3) := by decide +kernel
theorem dX7_rock_47 : decode cX7_rock 47 = .ok (.aload_n 0, 1) := by decide +kernel
theorem dX7_rock_48 : decode cX7_rock 48 = .ok (.getfield 42, 3) := by decide +kernel
theorem dX7_rock_51 : decode cX7_rock 51 = .ok (.invokevirtual 143, 3) := by decide +kernel
theorem dX7_rock_54 : decode cX7_rock 54 = .ok (.aload_n 0, 1) := by decide +kernel
theorem dX7_rock_55 : decode cX7_rock 55 = .ok (.getfield 19, 3) := by decide +kernel
theorem dX7_rock_58 : decode cX7_rock 58 = .ok (.invokevirtual 79, 3) := by decide +kernel
theorem dX7_rock_61 : decode cX7_rock 61 = .ok (.aload_n 0, 1) := by decide +kernel
theorem dX7_rock_62 : decode cX7_rock 62 = .ok (.getfield 10, 3) := by decide +kernel
theorem dX7_rock_65 : decode cX7_rock 65 = .ok (.getfield 75, 3) := by decide +kernel
theorem dX7_rock_68 : decode cX7_rock 68 = .ok (.ireturn, 1) := by decide +kernel
set_option maxRecDepth 20000 in
theorem ggX7_count_X2_goneSet : GoodIn wsX7_count wsX2_goneSet := goodIn_r _ [12, 13, 14, 15, 16, 11, 17, 18, 19, 51, 52, 53, 54, 55, 56, 57, 58, 59, 60, 61, 62] (by decide +kernel) (by decide +kernel)
set_option maxRecDepth 20000 in
theorem gX7_count_X2_goneSet : GoodIn wsX7_count (wsV RX7 153 RX2 yX2_goneSet wsX2_goneSet) := goodIn_app (goodIn_of _ (by decide +kernel)) ggX7_count_X2_goneSet
set_option maxRecDepth 20000 in
theorem ggX7_count_X2_tornSet : GoodIn wsX7_count wsX2_tornSet := goodIn_r _ [23, 13, 24, 25, 26, 11, 27, 28, 51, 52, 53, 54, 55, 56, 57, 58, 59, 60, 61, 62] (by decide +kernel) (by decide +kernel)
set_option maxRecDepth 20000 in
theorem gX7_count_X2_tornSet : GoodIn wsX7_count (wsV RX7 157 RX2 yX2_tornSet wsX2_tornSet) := goodIn_app (goodIn_of _ (by decide +kernel)) ggX7_count_X2_tornSet
set_option maxRecDepth 20000 in
theorem ggX7_count_X2_darkTogether : GoodIn wsX7_count wsX2_darkTogether := goodIn_r _ [32, 13, 18, 51, 52, 53, 54, 55, 56, 57, 58, 59, 60, 61, 62] (by decide +kernel) (by decide +kernel)
set_option maxRecDepth 20000 in
theorem gX7_count_X2_darkTogether : GoodIn wsX7_count (wsV RX7 160 RX2 yX2_darkTogether wsX2_darkTogether) := goodIn_app (goodIn_of _ (by decide +kernel)) ggX7_count_X2_darkTogether
set_option maxRecDepth 20000 in
theorem ggX7_count_X2_sizeTogether : GoodIn wsX7_count wsX2_sizeTogether := goodIn_r _ [36, 37, 38, 51, 52, 53, 54, 55, 56, 57, 58, 59, 60, 61, 62] (by decide +kernel) (by decide +kernel)
set_option maxRecDepth 20000 in
theorem gX7_count_X2_sizeTogether : GoodIn wsX7_count (wsV RX7 163 RX2 yX2_sizeTogether wsX2_sizeTogether) := goodIn_app (goodIn_of _ (by decide +kernel)) ggX7_count_X2_sizeTogether
theorem dX7_count_0 : decode cX7_count 0 = .ok (.iload_n 1, 1) := by decide +kernel
theorem dX7_count_1 : decode cX7_count 1 = .ok (.tableswitch 123 0 8 #[51, 59, 67, 75, 83, 91, 99, 107, 115], 51) := by decide +kernel
theorem dX7_count_52 : decode cX7_count 52 = .ok (.aload_n 0, 1) := by decide +kernel
theorem dX7_count_53 : decode cX7_count 53 = .ok (.getfield 10, 3) := by decide +kernel
theorem dX7_count_56 : decode cX7_count 56 = .ok (.getfield 75, 3) := by decide +kernel
theorem dX7_count_59 : decode cX7_count 59 = .ok (.ireturn, 1) := by decide +kernel
theorem dX7_count_60 : decode cX7_count 60 = .ok (.aload_n 0, 1) := by decide +kernel
theorem dX7_count_61 : decode cX7_count 61 = .ok (.getfield 10, 3) := by decide +kernel
theorem dX7_count_64 : decode cX7_count 64 = .ok (.getfield 86, 3) := by decide +kernel
theorem dX7_count_67 : decode cX7_count 67 = .ok (.ireturn, 1) := by decide +kernel
theorem dX7_count_68 : decode cX7_count 68 = .ok (.aload_n 0, 1) := by decide +kernel
theorem dX7_count_69 : decode cX7_count 69 = .ok (.getfield 10, 3) := by decide +kernel
theorem dX7_count_72 : decode cX7_count 72 = .ok (.getfield 147, 3) := by decide +kernel
theorem dX7_count_75 : decode cX7_count 75 = .ok (.ireturn, 1) := by decide +kernel
theorem dX7_count_76 : decode cX7_count 76 = .ok (.aload_n 0, 1) := by decide +kernel
theorem dX7_count_77 : decode cX7_count 77 = .ok (.getfield 10, 3) := by decide +kernel
theorem dX7_count_80 : decode cX7_count 80 = .ok (.getfield 150, 3) := by decide +kernel
theorem dX7_count_83 : decode cX7_count 83 = .ok (.ireturn, 1) := by decide +kernel
theorem dX7_count_84 : decode cX7_count 84 = .ok (.aload_n 0, 1) := by decide +kernel
theorem dX7_count_85 : decode cX7_count 85 = .ok (.getfield 10, 3) := by decide +kernel
