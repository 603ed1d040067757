set_option maxRecDepth 20000 in
theorem ggX2_init_X5_init : GoodIn wsX2_init wsX5_init := goodIn_r _ [9, 10, 2, 3, 11, 12, 13, 14, 15, 16, 17, 18, 19, 20, 21, 22, 23, 24, 25, 26, 27, 28, 29, 30, 31, 32, 33, 34, 35, 36, 37, 38, 39, 40, 41, 42, 43, 44, 45, 46, 47, 60, 61, 62, 63, 64, 65, 51, 52, 53, 54, 55, 56, 57, 58, 59, 66, 67, 68, 69] (by decide +kernel) (by decide +kernel)
set_option maxRecDepth 20000 in
theorem gX2_init_X5_init_n17 : GoodIn wsX2_init (wsX5_init) := ggX2_init_X5_init
theorem dX2_init_0 : decode cX2_init 0 = .ok (.aload_n 0, 1) := by decide +kernel
theorem dX2_init_1 : decode cX2_init 1 = .ok (.invokespecial 3, 3) := by decide +kernel
theorem dX2_init_4 : decode cX2_init 4 = .ok (.aload_n 0, 1) := by decide +kernel
theorem dX2_init_5 : decode cX2_init 5 = .ok (.bipush 15, 2) := by decide +kernel
theorem dX2_init_7 : decode cX2_init 7 = .ok (.anewarray 11, 3) := by decide +kernel
theorem dX2_init_10 : decode cX2_init 10 = .ok (.putfield 13, 3) := by decide +kernel
theorem dX2_init_13 : decode cX2_init 13 = .ok (.iconst 0, 1) := by decide +kernel
theorem dX2_init_14 : decode cX2_init 14 = .ok (.istore_n 1, 1) := by decide +kernel
theorem dX2_init_15 : decode cX2_init 15 = .ok (.iload_n 1, 1) := by decide +kernel
theorem dX2_init_16 : decode cX2_init 16 = .ok (.bipush 15, 2) := by decide +kernel
theorem dX2_init_18 : decode cX2_init 18 = .ok (.if_icmp .ge 22, 3) := by decide +kernel
theorem dX2_init_21 : decode cX2_init 21 = .ok (.aload_n 0, 1) := by decide +kernel
theorem dX2_init_22 : decode cX2_init 22 = .ok (.getfield 13, 3) := by decide +kernel
theorem dX2_init_25 : decode cX2_init 25 = .ok (.iload_n 1, 1) := by decide +kernel
theorem dX2_init_26 : decode cX2_init 26 = .ok (.new 11, 3) := by decide +kernel
theorem dX2_init_29 : decode cX2_init 29 = .ok (.dup, 1) := by decide +kernel
theorem dX2_init_30 : decode cX2_init 30 = .ok (.invokespecial 17, 3) := by decide +kernel
theorem dX2_init_33 : decode cX2_init 33 = .ok (.aastore, 1) := by decide +kernel
theorem dX2_init_34 : decode cX2_init 34 = .ok (.iinc 1 1, 3) := by decide +kernel
theorem dX2_init_37 : decode cX2_init 37 = .ok (.goto (-22), 3) := by decide +kernel
theorem dX2_init_40 : decode cX2_init 40 = .ok (.return_, 1) := by decide +kernel
theorem dX2_forgetAll_0 : decode cX2_forgetAll 0 = .ok (.aload_n 0, 1) := by decide +kernel
theorem dX2_forgetAll_1 : decode cX2_forgetAll 1 = .ok (.iconst 0, 1) := by decide +kernel
theorem dX2_forgetAll_2 : decode cX2_forgetAll 2 = .ok (.putfield 18, 3) := by decide +kernel
theorem dX2_forgetAll_5 : decode cX2_forgetAll 5 = .ok (.return_, 1) := by decide +kernel
set_option maxRecDepth 20000 in
theorem ggX2_prepare_X5_copyFrom : GoodIn wsX2_prepare wsX5_copyFrom := goodIn_r _ [7, 8, 9, 10, 11, 12, 13, 14, 15, 16, 17, 18, 19, 20, 21, 22, 23, 24, 25, 26, 27, 28, 29, 30, 31, 32, 33, 34, 35, 36, 37, 38, 39, 40, 41, 42, 43, 44, 45, 49, 50, 51, 52, 53, 54, 55, 56, 57, 58, 59, 60, 61, 62, 63, 64, 65, 66, 67] (by decide +kernel) (by decide +kernel)
set_option maxRecDepth 20000 in
theorem gX2_prepare_X5_copyFrom_n25 : GoodIn wsX2_prepare (wsX5_copyFrom) := ggX2_prepare_X5_copyFrom
theorem dX2_prepare_0 : decode cX2_prepare 0 = .ok (.aload_n 0, 1) := by decide +kernel
theorem dX2_prepare_1 : decode cX2_prepare 1 = .ok (.getfield 13, 3) := by decide +kernel
theorem dX2_prepare_4 : decode cX2_prepare 4 = .ok (.aload_n 0, 1) := by decide +kernel
theorem dX2_prepare_5 : decode cX2_prepare 5 = .ok (.getfield 22, 3) := by decide +kernel
theorem dX2_prepare_8 : decode cX2_prepare 8 = .ok (.aload_n 0, 1) := by decide +kernel
theorem dX2_prepare_9 : decode cX2_prepare 9 = .ok (.getfield 18, 3) := by decide +kernel
theorem dX2_prepare_12 : decode cX2_prepare 12 = .ok (.iadd, 1) := by decide +kernel
theorem dX2_prepare_13 : decode cX2_prepare 13 = .ok (.bipush 15, 2) := by decide +kernel
theorem dX2_prepare_15 : decode cX2_prepare 15 = .ok (.irem, 1) := by decide +kernel
theorem dX2_prepare_16 : decode cX2_prepare 16 = .ok (.aaload, 1) := by decide +kernel
theorem dX2_prepare_17 : decode cX2_prepare 17 = .ok (.aload_n 1, 1) := by decide +kernel
theorem dX2_prepare_18 : decode cX2_prepare 18 = .ok (.invokevirtual 25, 3) := by decide +kernel
theorem dX2_prepare_21 : decode cX2_prepare 21 = .ok (.return_, 1) := by decide +kernel
theorem dX2_keepPrepared_0 : decode cX2_keepPrepared 0 = .ok (.aload_n 0, 1) := by decide +kernel
theorem dX2_keepPrepared_1 : decode cX2_keepPrepared 1 = .ok (.getfield 18, 3) := by decide +kernel
theorem dX2_keepPrepared_4 : decode cX2_keepPrepared 4 = .ok (.bipush 14, 2) := by decide +kernel
theorem dX2_keepPrepared_6 : decode cX2_keepPrepared 6 = .ok (.if_icmp .ge 16, 3) := by decide +kernel
theorem dX2_keepPrepared_9 : decode cX2_keepPrepared 9 = .ok (.aload_n 0, 1) := by decide +kernel
theorem dX2_keepPrepared_10 : decode cX2_keepPrepared 10 = .ok (.dup, 1) := by decide +kernel
theorem dX2_keepPrepared_11 : decode cX2_keepPrepared 11 = .ok (.getfield 18, 3) := by decide +kernel
theorem dX2_keepPrepared_14 : decode cX2_keepPrepared 14 = .ok (.iconst 1, 1) := by decide +kernel
theorem dX2_keepPrepared_15 : decode cX2_keepPrepared 15 = .ok (.iadd, 1) := by decide +kernel
theorem dX2_keepPrepared_16 : decode cX2_keepPrepared 16 = .ok (.putfield 18, 3) := by decide +kernel
theorem dX2_keepPrepared_19 : decode cX2_keepPrepared 19 = .ok (.goto 16, 3) := by decide +kernel
theorem dX2_keepPrepared_22 : decode cX2_keepPrepared 22 = .ok (.aload_n 0, 1) := by decide +kernel
theorem dX2_keepPrepared_23 : decode cX2_keepPrepared 23 = .ok (.aload_n 0, 1) := by decide +kernel
theorem dX2_keepPrepared_24 : decode cX2_keepPrepared 24 = .ok (.getfield 22, 3) := by decide +kernel
theorem dX2_keepPrepared_27 : decode cX2_keepPrepared 27 = .ok (.iconst 1, 1) := by decide +kernel
theorem dX2_keepPrepared_28 : decode cX2_keepPrepared 28 = .ok (.iadd, 1) := by decide +kernel
theorem dX2_keepPrepared_29 : decode cX2_keepPrepared 29 = .ok (.bipush 15, 2) := by decide +kernel
theorem dX2_keepPrepared_31 : decode cX2_keepPrepared 31 = .ok (.irem, 1) := by decide +kernel
theorem dX2_keepPrepared_32 : decode cX2_keepPrepared 32 = .ok (.putfield 22, 3) := by decide +kernel
theorem dX2_keepPrepared_35 : decode cX2_keepPrepared 35 = .ok (.return_, 1) := by decide +kernel
set_option maxRecDepth 20000 in
theorem ggX2_takeBack_X5_copyFrom : GoodIn wsX2_takeBack wsX5_copyFrom := goodIn_r _ [7, 8, 9, 10, 11, 12, 13, 14, 15, 16, 17, 18, 19, 20, 21, 22, 23, 24, 25, 26, 27, 28, 29, 30, 31, 32, 33, 34, 35, 36, 37, 38, 39, 40, 41, 42, 43, 44, 45, 49, 50, 51, 52, 53, 54, 55, 56, 57, 58, 59, 60, 61, 62, 63, 64, 65, 66, 67] (by decide +kernel) (by decide +kernel)
set_option maxRecDepth 20000 in
theorem gX2_takeBack_X5_copyFrom_n25 : GoodIn wsX2_takeBack (wsX5_copyFrom) := ggX2_takeBack_X5_copyFrom
theorem dX2_takeBack_0 : decode cX2_takeBack 0 = .ok (.aload_n 0, 1) := by decide +kernel
theorem dX2_takeBack_1 : decode cX2_takeBack 1 = .ok (.getfield 18, 3) := by decide +kernel
theorem dX2_takeBack_4 : decode cX2_takeBack 4 = .ok (.ifCond .le 34, 3) := by decide +kernel
theorem dX2_takeBack_7 : decode cX2_takeBack 7 = .ok (.aload_n 0, 1) := by decide +kernel
theorem dX2_takeBack_8 : decode cX2_takeBack 8 = .ok (.dup, 1) := by decide +kernel
theorem dX2_takeBack_9 : decode cX2_takeBack 9 = .ok (.getfield 18, 3) := by decide +kernel
theorem dX2_takeBack_12 : decode cX2_takeBack 12 = .ok (.iconst 1, 1) := by decide +kernel
theorem dX2_takeBack_13 : decode cX2_takeBack 13 = .ok (.isub, 1) := by decide +kernel
theorem dX2_takeBack_14 : decode cX2_takeBack 14 = .ok (.putfield 18, 3) := by decide +kernel
theorem dX2_takeBack_17 : decode cX2_takeBack 17 = .ok (.aload_n 1, 1) := by decide +kernel
theorem dX2_takeBack_18 : decode cX2_takeBack 18 = .ok (.aload_n 0, 1) := by decide +kernel
theorem dX2_takeBack_19 : decode cX2_takeBack 19 = .ok (.getfield 13, 3) := by decide +kernel
theorem dX2_takeBack_22 : decode cX2_takeBack 22 = .ok (.aload_n 0, 1) := by decide +kernel
theorem dX2_takeBack_23 : decode cX2_takeBack 23 = .ok (.getfield 22, 3) := by decide +kernel
theorem dX2_takeBack_26 : decode cX2_takeBack 26 = .ok (.aload_n 0, 1) := by decide +kernel
theorem dX2_takeBack_27 : decode cX2_takeBack 27 = .ok (.getfield 18, 3) := by decide +kernel
theorem dX2_takeBack_30 : decode cX2_takeBack 30 = .ok (.iadd, 1) := by decide +kernel
theorem dX2_takeBack_31 : decode cX2_takeBack 31 = .ok (.bipush 15, 2) := by decide +kernel
theorem dX2_takeBack_33 : decode cX2_takeBack 33 = .ok (.irem, 1) := by decide +kernel
theorem dX2_takeBack_34 : decode cX2_takeBack 34 = .ok (.aaload, 1) := by decide +kernel
theorem dX2_takeBack_35 : decode cX2_takeBack 35 = .ok (.invokevirtual 25, 3) := by decide +kernel
theorem dX2_takeBack_38 : decode cX2_takeBack 38 = .ok (.return_, 1) := by decide +kernel
theorem dX3_limit_0 : decode cX3_limit 0 = .ok (.lconst 1, 1) := by decide +kernel
theorem dX3_limit_1 : decode cX3_limit 1 = .ok (.lstore_n 1, 1) := by decide +kernel
theorem dX3_limit_2 : decode cX3_limit 2 = .ok (.iconst 0, 1) := by decide +kernel
theorem dX3_limit_3 : decode cX3_limit 3 = .ok (.istore_n 3, 1) := by decide +kernel
theorem dX3_limit_4 : decode cX3_limit 4 = .ok (.iload_n 3, 1) := by decide +kernel
theorem dX3_limit_5 : decode cX3_limit 5 = .ok (.iload_n 0, 1) := by decide +kernel
theorem dX3_limit_6 : decode cX3_limit 6 = .ok (.if_icmp .ge 20, 3) := by decide +kernel
theorem dX3_limit_9 : decode cX3_limit 9 = .ok (.iload_n 3, 1) := by decide +kernel
theorem dX3_limit_10 : decode cX3_limit 10 = .ok (.iconst 3, 1) := by decide +kernel
theorem dX3_limit_11 : decode cX3_limit 11 = .ok (.if_icmp .ge 15, 3) := by decide +kernel
theorem dX3_limit_14 : decode cX3_limit 14 = .ok (.lload_n 1, 1) := by decide +kernel
theorem dX3_limit_15 : decode cX3_limit 15 = .ok (.ldc2_w 11, 3) := by decide +kernel
theorem dX3_limit_18 : decode cX3_limit 18 = .ok (.lmul, 1) := by decide +kernel
theorem dX3_limit_19 : decode cX3_limit 19 = .ok (.lstore_n 1, 1) := by decide +kernel
theorem dX3_limit_20 : decode cX3_limit 20 = .ok (.iinc 3 1, 3) := by decide +kernel
theorem dX3_limit_23 : decode cX3_limit 23 = .ok (.goto (-19), 3) := by decide +kernel
theorem dX3_limit_26 : decode cX3_limit 26 = .ok (.lload_n 1, 1) := by decide +kernel
theorem dX3_limit_27 : decode cX3_limit 27 = .ok (.lreturn, 1) := by decide +kernel
theorem dX3_group_0 : decode cX3_group 0 = .ok (.lload_n 0, 1) := by decide +kernel
theorem dX3_group_1 : decode cX3_group 1 = .ok (.lstore_n 3, 1) := by decide +kernel
theorem dX3_group_2 : decode cX3_group 2 = .ok (.iconst 0, 1) := by decide +kernel
theorem dX3_group_3 : decode cX3_group 3 = .ok (.istore 5, 2) := by decide +kernel
theorem dX3_group_5 : decode cX3_group 5 = .ok (.iload 5, 2) := by decide +kernel
theorem dX3_group_7 : decode cX3_group 7 = .ok (.iload_n 2, 1) := by decide +kernel
theorem dX3_group_8 : decode cX3_group 8 = .ok (.if_icmp .ge 21, 3) := by decide +kernel
theorem dX3_group_11 : decode cX3_group 11 = .ok (.iload 5, 2) := by decide +kernel
theorem dX3_group_13 : decode cX3_group 13 = .ok (.iconst 3, 1) := by decide +kernel
theorem dX3_group_14 : decode cX3_group 14 = .ok (.if_icmp .ge 15, 3) := by decide +kernel
theorem dX3_group_17 : decode cX3_group 17 = .ok (.lload_n 3, 1) := by decide +kernel
theorem dX3_group_18 : decode cX3_group 18 = .ok (.ldc2_w 11, 3) := by decide +kernel
theorem dX3_group_21 : decode cX3_group 21 = .ok (.ldiv, 1) := by decide +kernel
theorem dX3_group_22 : decode cX3_group 22 = .ok (.lstore_n 3, 1) := by decide +kernel
theorem dX3_group_23 : decode cX3_group 23 = .ok (.iinc 5 1, 3) := by decide +kernel
theorem dX3_group_26 : decode cX3_group 26 = .ok (.goto (-21), 3) := by decide +kernel
theorem dX3_group_29 : decode cX3_group 29 = .ok (.lload_n 3, 1) := by decide +kernel
theorem dX3_group_30 : decode cX3_group 30 = .ok (.ldc2_w 11, 3) := by decide +kernel
theorem dX3_group_33 : decode cX3_group 33 = .ok (.lrem, 1) := by decide +kernel
theorem dX3_group_34 : decode cX3_group 34 = .ok (.l2i, 1) := by decide +kernel
theorem dX3_group_35 : decode cX3_group 35 = .ok (.ireturn, 1) := by decide +kernel
set_option maxRecDepth 20000 in
theorem ggX3_succeeds_X5_tryLend : GoodIn wsX3_succeeds wsX5_tryLend := goodIn_r _ [5, 6, 7, 8, 9, 10, 11, 12, 13, 14, 15, 16, 17, 18, 19, 20, 21, 22, 23, 123, 124, 125, 126, 127, 128, 129, 130, 131, 132, 133, 134, 135, 136, 137] (by decide +kernel) (by decide +kernel)
set_option maxRecDepth 20000 in
theorem gX3_succeeds_X5_tryLend_n14 : GoodIn wsX3_succeeds (wsX5_tryLend) := ggX3_succeeds_X5_tryLend
set_option maxRecDepth 20000 in
theorem ggX3_succeeds_X5_tryBring : GoodIn wsX3_succeeds wsX5_tryBring := goodIn_r _ [26, 6, 8, 9, 10, 11, 12, 18, 19, 20, 21, 22, 23, 27, 28, 29, 3, 30, 7, 31, 32, 33, 34, 35, 36, 37, 38, 39, 40, 41, 42, 43, 44, 45, 13, 14, 15, 46, 47, 48, 49, 123, 124, 125, 126, 127, 128, 129, 130, 131, 132, 133, 134, 135, 136, 137] (by decide +kernel) (by decide +kernel)
set_option maxRecDepth 20000 in
theorem gX3_succeeds_X5_tryBring_n20 : GoodIn wsX3_succeeds (wsX5_tryBring) := ggX3_succeeds_X5_tryBring
set_option maxRecDepth 20000 in
theorem ggX3_succeeds_X5_tryExchange : GoodIn wsX3_succeeds wsX5_tryExchange := goodIn_r _ [52, 6, 53, 8, 9, 10, 11, 12, 54, 55, 56, 22, 57, 18, 19, 20, 21, 23, 58, 59, 60, 61, 62, 63, 64, 65, 66, 67, 68, 3, 69, 35, 70, 71, 72, 73, 74, 75, 76, 77, 78, 79, 46, 47, 48, 49, 40, 41, 42, 43, 44, 45, 13, 14, 15, 123, 124, 125, 126, 127, 128, 129, 130, 131, 132, 133, 134, 135, 136, 137] (by decide +kernel) (by decide +kernel)
set_option maxRecDepth 20000 in
theorem gX3_succeeds_X5_tryExchange_n24 : GoodIn wsX3_succeeds (wsX5_tryExchange) := ggX3_succeeds_X5_tryExchange
set_option maxRecDepth 20000 in
theorem ggX3_succeeds_X5_tryTake : GoodIn wsX3_succeeds wsX5_tryTake := goodIn_r _ [82, 6, 83, 84, 8, 9, 10, 11, 12, 85, 14, 86, 87, 88, 89, 90, 21, 23, 91, 92, 93, 65, 94, 95, 96, 97, 98, 99, 100, 101, 13, 15, 102, 103, 104, 105, 106, 123, 124, 125, 126, 127, 128, 129, 130, 131, 132, 133, 134, 135, 136, 137, 138] (by decide +kernel) (by decide +kernel)
set_option maxRecDepth 20000 in
theorem gX3_succeeds_X5_tryTake_n28 : GoodIn wsX3_succeeds (wsX5_tryTake) := ggX3_succeeds_X5_tryTake
set_option maxRecDepth 20000 in
theorem ggX3_succeeds_X5_tryDays : GoodIn wsX3_succeeds wsX5_tryDays := goodIn_r _ [109, 7, 123, 124, 125, 126, 127, 128, 129, 130, 131] (by decide +kernel) (by decide +kernel)
set_option maxRecDepth 20000 in
theorem gX3_succeeds_X5_tryDays_n31 : GoodIn wsX3_succeeds (wsX5_tryDays) := ggX3_succeeds_X5_tryDays
set_option maxRecDepth 20000 in
theorem ggX3_succeeds_X5_tryBuy : GoodIn wsX3_succeeds wsX5_tryBuy := goodIn_r _ [112, 6, 35, 8, 9, 10, 11, 12, 85, 14, 86, 91, 92, 93, 65, 23, 40, 41, 42, 3, 43, 44, 45, 13, 15, 123, 124, 125, 126, 127, 128, 129, 130, 131, 132, 133, 134, 135, 136, 137] (by decide +kernel) (by decide +kernel)
set_option maxRecDepth 20000 in
theorem gX3_succeeds_X5_tryBuy_n34 : GoodIn wsX3_succeeds (wsX5_tryBuy) := ggX3_succeeds_X5_tryBuy
set_option maxRecDepth 20000 in
theorem ggX3_succeeds_X3_isAt : GoodIn wsX3_succeeds wsX3_isAt := goodIn_r _ [116, 8, 9, 10, 11, 12, 13, 14, 15, 123, 124, 125, 126, 127, 128, 129, 130, 131, 132, 133, 134, 135, 136, 137] (by decide +kernel) (by decide +kernel)
set_option maxRecDepth 20000 in
theorem gX3_succeeds_X3_isAt : GoodIn wsX3_succeeds (va_wsS RX3 37 yX3_isAt wsX3_isAt) := goodIn_app (goodIn_of _ (by decide +kernel)) ggX3_succeeds_X3_isAt
set_option maxRecDepth 20000 in
theorem ggX3_succeeds_X3_hasMoney : GoodIn wsX3_succeeds wsX3_hasMoney := goodIn_r _ [119, 13, 14, 15, 123, 124, 125, 126, 127, 128, 129, 130, 131] (by decide +kernel) (by decide +kernel)
set_option maxRecDepth 20000 in
theorem gX3_succeeds_X3_hasMoney : GoodIn wsX3_succeeds (va_wsS RX3 41 yX3_hasMoney wsX3_hasMoney) := goodIn_app (goodIn_of _ (by decide +kernel)) ggX3_succeeds_X3_hasMoney
set_option maxRecDepth 20000 in
theorem ggX3_succeeds_X7_usableOnes : GoodIn wsX3_succeeds wsX7_usableOnes := goodIn_r _ [122, 12, 61, 62, 63, 9, 64, 65, 23, 8, 10, 11, 132, 133, 134, 135, 136, 137] (by decide +kernel) (by decide +kernel)
set_option maxRecDepth 20000 in
theorem gX3_succeeds_X7_usableOnes_n48 : GoodIn wsX3_succeeds (wsX7_usableOnes) := ggX3_succeeds_X7_usableOnes
theorem dX3_succeeds_0 : decode cX3_succeeds 0 = .ok (.iload_n 1, 1) := by decide +kernel
theorem dX3_succeeds_1 : decode cX3_succeeds 1 = .ok (.sipush 10000, 3) := by decide +kernel
theorem dX3_succeeds_4 : decode cX3_succeeds 4 = .ok (.idiv, 1) := by decide +kernel
theorem dX3_succeeds_5 : decode cX3_succeeds 5 = .ok (.bipush 10, 2) := by decide +kernel
theorem dX3_succeeds_7 : decode cX3_succeeds 7 = .ok (.irem, 1) := by decide +kernel
theorem dX3_succeeds_8 : decode cX3_succeeds 8 = .ok (.istore_n 2, 1) := by decide +kernel
theorem dX3_succeeds_9 : decode cX3_succeeds 9 = .ok (.iload_n 1, 1) := by decide +kernel
theorem dX3_succeeds_10 : decode cX3_succeeds 10 = .ok (.sipush 1000, 3) := by decide +kernel
theorem dX3_succeeds_13 : decode cX3_succeeds 13 = .ok (.idiv, 1) := by decide +kernel
theorem dX3_succeeds_14 : decode cX3_succeeds 14 = .ok (.bipush 100, 2) := by decide +kernel
theorem dX3_succeeds_16 : decode cX3_succeeds 16 = .ok (.irem, 1) := by decide +kernel
theorem dX3_succeeds_17 : decode cX3_succeeds 17 = .ok (.istore_n 3, 1) := by decide +kernel
theorem dX3_succeeds_18 : decode cX3_succeeds 18 = .ok (.iload_n 1, 1) := by decide +kernel
theorem dX3_succeeds_19 : decode cX3_succeeds 19 = .ok (.bipush 100, 2) := by decide +kernel
theorem dX3_succeeds_21 : decode cX3_succeeds 21 = .ok (.idiv, 1) := by decide +kernel
theorem dX3_succeeds_22 : decode cX3_succeeds 22 = .ok (.bipush 10, 2) := by decide +kernel
theorem dX3_succeeds_24 : decode cX3_succeeds 24 = .ok (.irem, 1) := by decide +kernel
theorem dX3_succeeds_25 : decode cX3_succeeds 25 = .ok (.istore 4, 2) := by decide +kernel
theorem dX3_succeeds_27 : decode cX3_succeeds 27 = .ok (.iload_n 1, 1) := by decide +kernel
theorem dX3_succeeds_28 : decode cX3_succeeds 28 = .ok (.bipush 10, 2) := by decide +kernel
theorem dX3_succeeds_30 : decode cX3_succeeds 30 = .ok (.idiv, 1) := by decide +kernel
theorem dX3_succeeds_31 : decode cX3_succeeds 31 = .ok (.bipush 100, 2) := by decide +kernel
theorem dX3_succeeds_33 : decode cX3_succeeds 33 = .ok (.irem, 1) := by decide +kernel
theorem dX3_succeeds_34 : decode cX3_succeeds 34 = .ok (.istore 5, 2) := by decide +kernel
theorem dX3_succeeds_36 : decode cX3_succeeds 36 = .ok (.iload_n 1, 1) := by decide +kernel
theorem dX3_succeeds_37 : decode cX3_succeeds 37 = .ok (.bipush 100, 2) := by decide +kernel
theorem dX3_succeeds_39 : decode cX3_succeeds 39 = .ok (.irem, 1) := by decide +kernel
theorem dX3_succeeds_40 : decode cX3_succeeds 40 = .ok (.istore 6, 2) := by decide +kernel
theorem dX3_succeeds_42 : decode cX3_succeeds 42 = .ok (.iload_n 1, 1) := by decide +kernel
theorem dX3_succeeds_43 : decode cX3_succeeds 43 = .ok (.bipush 10, 2) := by decide +kernel
theorem dX3_succeeds_45 : decode cX3_succeeds 45 = .ok (.irem, 1) := by decide +kernel
theorem dX3_succeeds_46 : decode cX3_succeeds 46 = .ok (.istore 7, 2) := by decide +kernel
theorem dX3_succeeds_48 : decode cX3_succeeds 48 = .ok (.iload_n 1, 1) := by decide +kernel
theorem dX3_succeeds_49 : decode cX3_succeeds 49 = .ok (.bipush 100, 2) := by decide +kernel
theorem dX3_succeeds_51 : decode cX3_succeeds 51 = .ok (.idiv, 1) := by decide +kernel
theorem dX3_succeeds_52 : decode cX3_succeeds 52 = .ok (.sipush 1000, 3) := by decide +kernel
theorem dX3_succeeds_55 : decode cX3_succeeds 55 = .ok (.irem, 1) := by decide +kernel
theorem dX3_succeeds_56 : decode cX3_succeeds 56 = .ok (.ifCond .ne 7, 3) := by decide +kernel
theorem dX3_succeeds_59 : decode cX3_succeeds 59 = .ok (.iconst 1, 1) := by decide +kernel
theorem dX3_succeeds_60 : decode cX3_succeeds 60 = .ok (.goto 4, 3) := by decide +kernel
theorem dX3_succeeds_63 : decode cX3_succeeds 63 = .ok (.iconst 0, 1) := by decide +kernel
theorem dX3_succeeds_64 : decode cX3_succeeds 64 = .ok (.istore 8, 2) := by decide +kernel
theorem dX3_succeeds_66 : decode cX3_succeeds 66 = .ok (.iload_n 1, 1) := by decide +kernel
theorem dX3_succeeds_67 : decode cX3_succeeds 67 = .ok (.ldc 13, 2) := by decide +kernel
theorem dX3_succeeds_69 : decode cX3_succeeds 69 = .ok (.idiv, 1) := by decide +kernel
theorem dX3_succeeds_70 : decode cX3_succeeds 70 = .ok (.tableswitch 243 1 9 #[50, 68, 88, 109, 127, 147, 168, 189, 220], 50) := by decide +kernel
theorem dX3_succeeds_120 : decode cX3_succeeds 120 = .ok (.aload_n 0, 1) := by decide +kernel
theorem dX3_succeeds_121 : decode cX3_succeeds 121 = .ok (.iload_n 3, 1) := by decide +kernel
theorem dX3_succeeds_122 : decode cX3_succeeds 122 = .ok (.iload 4, 2) := by decide +kernel
theorem dX3_succeeds_124 : decode cX3_succeeds 124 = .ok (.iload 6, 2) := by decide +kernel
theorem dX3_succeeds_126 : decode cX3_succeeds 126 = .ok (.invokevirtual 14, 3) := by decide +kernel
theorem dX3_succeeds_129 : decode cX3_succeeds 129 = .ok (.ifCond .lt 7, 3) := by decide +kernel
theorem dX3_succeeds_132 : decode cX3_succeeds 132 = .ok (.iconst 1, 1) := by decide +kernel
theorem dX3_succeeds_133 : decode cX3_succeeds 133 = .ok (.goto 4, 3) := by decide +kernel
theorem dX3_succeeds_136 : decode cX3_succeeds 136 = .ok (.iconst 0, 1) := by decide +kernel
theorem dX3_succeeds_137 : decode cX3_succeeds 137 = .ok (.ireturn, 1) := by decide +kernel
theorem dX3_succeeds_138 : decode cX3_succeeds 138 = .ok (.iload 8, 2) := by decide +kernel
theorem dX3_succeeds_140 : decode cX3_succeeds 140 = .ok (.ifCond .eq 16, 3) := by decide +kernel
theorem dX3_succeeds_143 : decode cX3_succeeds 143 = .ok (.aload_n 0, 1) := by decide +kernel
theorem dX3_succeeds_144 : decode cX3_succeeds 144 = .ok (.iload 6, 2) := by decide +kernel
theorem dX3_succeeds_146 : decode cX3_succeeds 146 = .ok (.invokevirtual 20, 3) := by decide +kernel
theorem dX3_succeeds_149 : decode cX3_succeeds 149 = .ok (.ifCond .lt 7, 3) := by decide +kernel
theorem dX3_succeeds_152 : decode cX3_succeeds 152 = .ok (.iconst 1, 1) := by decide +kernel
theorem dX3_succeeds_153 : decode cX3_succeeds 153 = .ok (.goto 4, 3) := by decide +kernel
theorem dX3_succeeds_156 : decode cX3_succeeds 156 = .ok (.iconst 0, 1) := by decide +kernel
theorem dX3_succeeds_157 : decode cX3_succeeds 157 = .ok (.ireturn, 1) := by decide +kernel
theorem dX3_succeeds_158 : decode cX3_succeeds 158 = .ok (.iload 7, 2) := by decide +kernel
theorem dX3_succeeds_160 : decode cX3_succeeds 160 = .ok (.ifCond .ne 17, 3) := by decide +kernel
theorem dX3_succeeds_163 : decode cX3_succeeds 163 = .ok (.aload_n 0, 1) := by decide +kernel
theorem dX3_succeeds_164 : decode cX3_succeeds 164 = .ok (.iload_n 3, 1) := by decide +kernel
theorem dX3_succeeds_165 : decode cX3_succeeds 165 = .ok (.iload 5, 2) := by decide +kernel
theorem dX3_succeeds_167 : decode cX3_succeeds 167 = .ok (.invokevirtual 24, 3) := by decide +kernel
theorem dX3_succeeds_170 : decode cX3_succeeds 170 = .ok (.ifCond .lt 7, 3) := by decide +kernel
theorem dX3_succeeds_173 : decode cX3_succeeds 173 = .ok (.iconst 1, 1) := by decide +kernel
theorem dX3_succeeds_174 : decode cX3_succeeds 174 = .ok (.goto 4, 3) := by decide +kernel
theorem dX3_succeeds_177 : decode cX3_succeeds 177 = .ok (.iconst 0, 1) := by decide +kernel
theorem dX3_succeeds_178 : decode cX3_succeeds 178 = .ok (.ireturn, 1) := by decide +kernel
theorem dX3_succeeds_179 : decode cX3_succeeds 179 = .ok (.aload_n 0, 1) := by decide +kernel
theorem dX3_succeeds_180 : decode cX3_succeeds 180 = .ok (.iload_n 3, 1) := by decide +kernel
theorem dX3_succeeds_181 : decode cX3_succeeds 181 = .ok (.iload 5, 2) := by decide +kernel
theorem dX3_succeeds_183 : decode cX3_succeeds 183 = .ok (.iload 7, 2) := by decide +kernel
theorem dX3_succeeds_185 : decode cX3_succeeds 185 = .ok (.invokevirtual 28, 3) := by decide +kernel
theorem dX3_succeeds_188 : decode cX3_succeeds 188 = .ok (.ifCond .lt 7, 3) := by decide +kernel
theorem dX3_succeeds_191 : decode cX3_succeeds 191 = .ok (.iconst 1, 1) := by decide +kernel
theorem dX3_succeeds_192 : decode cX3_succeeds 192 = .ok (.goto 4, 3) := by decide +kernel
theorem dX3_succeeds_195 : decode cX3_succeeds 195 = .ok (.iconst 0, 1) := by decide +kernel
theorem dX3_succeeds_196 : decode cX3_succeeds 196 = .ok (.ireturn, 1) := by decide +kernel
theorem dX3_succeeds_197 : decode cX3_succeeds 197 = .ok (.iload 8, 2) := by decide +kernel
theorem dX3_succeeds_199 : decode cX3_succeeds 199 = .ok (.ifCond .eq 16, 3) := by decide +kernel
theorem dX3_succeeds_202 : decode cX3_succeeds 202 = .ok (.aload_n 0, 1) := by decide +kernel
theorem dX3_succeeds_203 : decode cX3_succeeds 203 = .ok (.iload 6, 2) := by decide +kernel
theorem dX3_succeeds_205 : decode cX3_succeeds 205 = .ok (.invokevirtual 31, 3) := by decide +kernel
theorem dX3_succeeds_208 : decode cX3_succeeds 208 = .ok (.ifCond .lt 7, 3) := by decide +kernel
theorem dX3_succeeds_211 : decode cX3_succeeds 211 = .ok (.iconst 1, 1) := by decide +kernel
theorem dX3_succeeds_212 : decode cX3_succeeds 212 = .ok (.goto 4, 3) := by decide +kernel
theorem dX3_succeeds_215 : decode cX3_succeeds 215 = .ok (.iconst 0, 1) := by decide +kernel
theorem dX3_succeeds_216 : decode cX3_succeeds 216 = .ok (.ireturn, 1) := by decide +kernel
theorem dX3_succeeds_217 : decode cX3_succeeds 217 = .ok (.iload 6, 2) := by decide +kernel
theorem dX3_succeeds_219 : decode cX3_succeeds 219 = .ok (.ifCond .ne 17, 3) := by decide +kernel
theorem dX3_succeeds_222 : decode cX3_succeeds 222 = .ok (.aload_n 0, 1) := by decide +kernel
theorem dX3_succeeds_223 : decode cX3_succeeds 223 = .ok (.iload_n 3, 1) := by decide +kernel
theorem dX3_succeeds_224 : decode cX3_succeeds 224 = .ok (.iload 4, 2) := by decide +kernel
theorem dX3_succeeds_226 : decode cX3_succeeds 226 = .ok (.invokevirtual 34, 3) := by decide +kernel
theorem dX3_succeeds_229 : decode cX3_succeeds 229 = .ok (.ifCond .lt 7, 3) := by decide +kernel
theorem dX3_succeeds_232 : decode cX3_succeeds 232 = .ok (.iconst 1, 1) := by decide +kernel
theorem dX3_succeeds_233 : decode cX3_succeeds 233 = .ok (.goto 4, 3) := by decide +kernel
theorem dX3_succeeds_236 : decode cX3_succeeds 236 = .ok (.iconst 0, 1) := by decide +kernel
theorem dX3_succeeds_237 : decode cX3_succeeds 237 = .ok (.ireturn, 1) := by decide +kernel
theorem dX3_succeeds_238 : decode cX3_succeeds 238 = .ok (.iload 6, 2) := by decide +kernel
theorem dX3_succeeds_240 : decode cX3_succeeds 240 = .ok (.ifCond .ne 17, 3) := by decide +kernel
theorem dX3_succeeds_243 : decode cX3_succeeds 243 = .ok (.aload_n 0, 1) := by decide +kernel
theorem dX3_succeeds_244 : decode cX3_succeeds 244 = .ok (.iload_n 3, 1) := by decide +kernel
theorem dX3_succeeds_245 : decode cX3_succeeds 245 = .ok (.iload 4, 2) := by decide +kernel
theorem dX3_succeeds_247 : decode cX3_succeeds 247 = .ok (.invokestatic 37, 3) := by decide +kernel
theorem dX3_succeeds_250 : decode cX3_succeeds 250 = .ok (.ifCond .eq 7, 3) := by decide +kernel
theorem dX3_succeeds_253 : decode cX3_succeeds 253 = .ok (.iconst 1, 1) := by decide +kernel
theorem dX3_succeeds_254 : decode cX3_succeeds 254 = .ok (.goto 4, 3) := by decide +kernel
theorem dX3_succeeds_257 : decode cX3_succeeds 257 = .ok (.iconst 0, 1) := by decide +kernel
theorem dX3_succeeds_258 : decode cX3_succeeds 258 = .ok (.ireturn, 1) := by decide +kernel
theorem dX3_succeeds_259 : decode cX3_succeeds 259 = .ok (.iload 7, 2) := by decide +kernel
theorem dX3_succeeds_261 : decode cX3_succeeds 261 = .ok (.ifCond .ne 27, 3) := by decide +kernel
theorem dX3_succeeds_264 : decode cX3_succeeds 264 = .ok (.aload_n 0, 1) := by decide +kernel
theorem dX3_succeeds_265 : decode cX3_succeeds 265 = .ok (.iload_n 2, 1) := by decide +kernel
theorem dX3_succeeds_266 : decode cX3_succeeds 266 = .ok (.iload_n 1, 1) := by decide +kernel
theorem dX3_succeeds_267 : decode cX3_succeeds 267 = .ok (.bipush 10, 2) := by decide +kernel
theorem dX3_succeeds_269 : decode cX3_succeeds 269 = .ok (.idiv, 1) := by decide +kernel
theorem dX3_succeeds_270 : decode cX3_succeeds 270 = .ok (.sipush 1000, 3) := by decide +kernel
theorem dX3_succeeds_273 : decode cX3_succeeds 273 = .ok (.irem, 1) := by decide +kernel
theorem dX3_succeeds_274 : decode cX3_succeeds 274 = .ok (.sipush 500, 3) := by decide +kernel
theorem dX3_succeeds_277 : decode cX3_succeeds 277 = .ok (.isub, 1) := by decide +kernel
theorem dX3_succeeds_278 : decode cX3_succeeds 278 = .ok (.invokestatic 41, 3) := by decide +kernel
theorem dX3_succeeds_281 : decode cX3_succeeds 281 = .ok (.ifCond .eq 7, 3) := by decide +kernel
theorem dX3_succeeds_284 : decode cX3_succeeds 284 = .ok (.iconst 1, 1) := by decide +kernel
theorem dX3_succeeds_285 : decode cX3_succeeds 285 = .ok (.goto 4, 3) := by decide +kernel
theorem dX3_succeeds_288 : decode cX3_succeeds 288 = .ok (.iconst 0, 1) := by decide +kernel
theorem dX3_succeeds_289 : decode cX3_succeeds 289 = .ok (.ireturn, 1) := by decide +kernel
theorem dX3_succeeds_290 : decode cX3_succeeds 290 = .ok (.iload 8, 2) := by decide +kernel
theorem dX3_succeeds_292 : decode cX3_succeeds 292 = .ok (.ifCond .eq 19, 3) := by decide +kernel
theorem dX3_succeeds_295 : decode cX3_succeeds 295 = .ok (.aload_n 0, 1) := by decide +kernel
theorem dX3_succeeds_296 : decode cX3_succeeds 296 = .ok (.getfield 44, 3) := by decide +kernel
theorem dX3_succeeds_299 : decode cX3_succeeds 299 = .ok (.invokevirtual 48, 3) := by decide +kernel
theorem dX3_succeeds_302 : decode cX3_succeeds 302 = .ok (.iload 6, 2) := by decide +kernel
theorem dX3_succeeds_304 : decode cX3_succeeds 304 = .ok (.if_icmp .lt 7, 3) := by decide +kernel
theorem dX3_succeeds_307 : decode cX3_succeeds 307 = .ok (.iconst 1, 1) := by decide +kernel
theorem dX3_succeeds_308 : decode cX3_succeeds 308 = .ok (.goto 4, 3) := by decide +kernel
theorem dX3_succeeds_311 : decode cX3_succeeds 311 = .ok (.iconst 0, 1) := by decide +kernel
theorem dX3_succeeds_312 : decode cX3_succeeds 312 = .ok (.ireturn, 1) := by decide +kernel
theorem dX3_succeeds_313 : decode cX3_succeeds 313 = .ok (.iconst 0, 1) := by decide +kernel
theorem dX3_succeeds_314 : decode cX3_succeeds 314 = .ok (.ireturn, 1) := by decide +kernel
set_option maxRecDepth 20000 in
theorem ggX3_isAt_X7_has : GoodIn wsX3_isAt wsX7_has := goodIn_r _ [4, 5, 18, 19, 20, 21, 22, 23] (by decide +kernel) (by decide +kernel)
set_option maxRecDepth 20000 in
theorem gX3_isAt_X7_has_n54 : GoodIn wsX3_isAt (wsX7_has) := ggX3_isAt_X7_has
set_option maxRecDepth 20000 in
theorem ggX3_isAt_X8_isHolder : GoodIn wsX3_isAt wsX8_isHolder := goodIn_r _ [8] (by decide +kernel) (by decide +kernel)
set_option maxRecDepth 20000 in
theorem gX3_isAt_X8_isHolder_n58 : GoodIn wsX3_isAt (wsX8_isHolder) := ggX3_isAt_X8_isHolder
theorem dX3_isAt_0 : decode cX3_isAt 0 = .ok (.aload_n 0, 1) := by decide +kernel
theorem dX3_isAt_1 : decode cX3_isAt 1 = .ok (.getfield 44, 3) := by decide +kernel
theorem dX3_isAt_4 : decode cX3_isAt 4 = .ok (.iload_n 1, 1) := by decide +kernel
theorem dX3_isAt_5 : decode cX3_isAt 5 = .ok (.invokevirtual 54, 3) := by decide +kernel
theorem dX3_isAt_8 : decode cX3_isAt 8 = .ok (.ifCond .eq 27, 3) := by decide +kernel
theorem dX3_isAt_11 : decode cX3_isAt 11 = .ok (.iload_n 2, 1) := by decide +kernel
theorem dX3_isAt_12 : decode cX3_isAt 12 = .ok (.invokestatic 58, 3) := by decide +kernel
theorem dX3_isAt_15 : decode cX3_isAt 15 = .ok (.ifCond .eq 20, 3) := by decide +kernel
theorem dX3_isAt_18 : decode cX3_isAt 18 = .ok (.aload_n 0, 1) := by decide +kernel
theorem dX3_isAt_19 : decode cX3_isAt 19 = .ok (.getfield 44, 3) := by decide +kernel
theorem dX3_isAt_22 : decode cX3_isAt 22 = .ok (.getfield 61, 3) := by decide +kernel
theorem dX3_isAt_25 : decode cX3_isAt 25 = .ok (.iload_n 1, 1) := by decide +kernel
theorem dX3_isAt_26 : decode cX3_isAt 26 = .ok (.iaload, 1) := by decide +kernel
theorem dX3_isAt_27 : decode cX3_isAt 27 = .ok (.iload_n 2, 1) := by decide +kernel
theorem dX3_isAt_28 : decode cX3_isAt 28 = .ok (.if_icmp .ne 7, 3) := by decide +kernel
theorem dX3_isAt_31 : decode cX3_isAt 31 = .ok (.iconst 1, 1) := by decide +kernel
theorem dX3_isAt_32 : decode cX3_isAt 32 = .ok (.goto 4, 3) := by decide +kernel
theorem dX3_isAt_35 : decode cX3_isAt 35 = .ok (.iconst 0, 1) := by decide +kernel
theorem dX3_isAt_36 : decode cX3_isAt 36 = .ok (.ireturn, 1) := by decide +kernel
set_option maxRecDepth 20000 in
theorem ggX3_hasMoney_X8_isHolder : GoodIn wsX3_hasMoney wsX8_isHolder := goodIn_r _ [3] (by decide +kernel) (by decide +kernel)
set_option maxRecDepth 20000 in
theorem gX3_hasMoney_X8_isHolder_n58 : GoodIn wsX3_hasMoney (wsX8_isHolder) := ggX3_hasMoney_X8_isHolder
theorem dX3_hasMoney_0 : decode cX3_hasMoney 0 = .ok (.iload_n 1, 1) := by decide +kernel
theorem dX3_hasMoney_1 : decode cX3_hasMoney 1 = .ok (.invokestatic 58, 3) := by decide +kernel
theorem dX3_hasMoney_4 : decode cX3_hasMoney 4 = .ok (.ifCond .eq 17, 3) := by decide +kernel
theorem dX3_hasMoney_7 : decode cX3_hasMoney 7 = .ok (.aload_n 0, 1) := by decide +kernel
theorem dX3_hasMoney_8 : decode cX3_hasMoney 8 = .ok (.getfield 65, 3) := by decide +kernel
theorem dX3_hasMoney_11 : decode cX3_hasMoney 11 = .ok (.iload_n 1, 1) := by decide +kernel
theorem dX3_hasMoney_12 : decode cX3_hasMoney 12 = .ok (.iaload, 1) := by decide +kernel
theorem dX3_hasMoney_13 : decode cX3_hasMoney 13 = .ok (.iload_n 2, 1) := by decide +kernel
theorem dX3_hasMoney_14 : decode cX3_hasMoney 14 = .ok (.if_icmp .lt 7, 3) := by decide +kernel
theorem dX3_hasMoney_17 : decode cX3_hasMoney 17 = .ok (.iconst 1, 1) := by decide +kernel
theorem dX3_hasMoney_18 : decode cX3_hasMoney 18 = .ok (.goto 4, 3) := by decide +kernel
theorem dX3_hasMoney_21 : decode cX3_hasMoney 21 = .ok (.iconst 0, 1) := by decide +kernel
theorem dX3_hasMoney_22 : decode cX3_hasMoney 22 = .ok (.ireturn, 1) := by decide +kernel
set_option maxRecDepth 20000 in
theorem ggX4_turn_X5_tryCome : GoodIn wsX4_turn wsX5_tryCome := goodIn_r _ [9, 10, 11, 12, 13, 14, 15, 16, 17, 18, 19, 20, 21, 22, 23, 24, 25, 26, 27, 28, 29, 30, 31, 32, 33, 162, 163, 164, 165, 166, 167, 168, 169, 170, 171, 172, 173, 174, 175, 176] (by decide +kernel) (by decide +kernel)
set_option maxRecDepth 20000 in
theorem gX4_turn_X5_tryCome_n28 : GoodIn wsX4_turn (wsX5_tryCome) := ggX4_turn_X5_tryCome
set_option maxRecDepth 20000 in
theorem ggX4_turn_X5_tryLend : GoodIn wsX4_turn wsX5_tryLend := goodIn_r _ [36, 10, 37, 31, 17, 32, 33, 20, 14, 12, 15, 38, 39, 40, 41, 42, 28, 27, 30, 162, 163, 164, 165, 166, 167, 168, 169, 170, 171, 172, 173, 174, 175, 176] (by decide +kernel) (by decide +kernel)
set_option maxRecDepth 20000 in
theorem gX4_turn_X5_tryLend_n32 : GoodIn wsX4_turn (wsX5_tryLend) := ggX4_turn_X5_tryLend
set_option maxRecDepth 20000 in
theorem ggX4_turn_X5_tryBring : GoodIn wsX4_turn wsX5_tryBring := goodIn_r _ [45, 10, 31, 17, 32, 33, 20, 40, 41, 42, 28, 27, 30, 46, 47, 48, 7, 49, 37, 50, 51, 52, 53, 54, 55, 2, 3, 4, 56, 57, 58, 59, 60, 61, 14, 12, 15, 24, 25, 26, 29, 162, 163, 164, 165, 166, 167, 168, 169, 170, 171, 172, 173, 174, 175, 176] (by decide +kernel) (by decide +kernel)
set_option maxRecDepth 20000 in
theorem gX4_turn_X5_tryBring_n35 : GoodIn wsX4_turn (wsX5_tryBring) := ggX4_turn_X5_tryBring
set_option maxRecDepth 20000 in
theorem ggX4_turn_X5_tryExchange : GoodIn wsX4_turn wsX5_tryExchange := goodIn_r _ [64, 10, 65, 31, 17, 32, 33, 20, 66, 67, 68, 27, 69, 40, 41, 42, 28, 30, 70, 71, 72, 73, 74, 75, 76, 22, 77, 78, 79, 7, 80, 54, 81, 82, 83, 84, 85, 86, 87, 88, 89, 90, 24, 25, 26, 29, 56, 57, 58, 59, 60, 61, 14, 12, 15, 162, 163, 164, 165, 166, 167, 168, 169, 170, 171, 172, 173, 174, 175, 176] (by decide +kernel) (by decide +kernel)
set_option maxRecDepth 20000 in
theorem gX4_turn_X5_tryExchange_n39 : GoodIn wsX4_turn (wsX5_tryExchange) := ggX4_turn_X5_tryExchange
set_option maxRecDepth 20000 in
theorem ggX4_turn_X5_tryAdvance : GoodIn wsX4_turn wsX5_tryAdvance := goodIn_r _ [93, 10, 94, 37, 65, 14, 12, 15, 31, 17, 32, 33, 20, 38, 39, 95, 96, 97, 98, 99, 70, 71, 72, 27, 69, 40, 41, 42, 28, 30, 73, 74, 75, 76, 22, 24, 25, 26, 29, 100, 101, 102, 103, 104, 105, 162, 163, 164, 165, 166, 167, 168, 169, 170, 171, 172, 173, 174, 175, 176, 177, 178, 179] (by decide +kernel) (by decide +kernel)
set_option maxRecDepth 20000 in
theorem gX4_turn_X5_tryAdvance_n42 : GoodIn wsX4_turn (wsX5_tryAdvance) := ggX4_turn_X5_tryAdvance
set_option maxRecDepth 20000 in
theorem ggX4_turn_X5_tryDeliver : GoodIn wsX4_turn wsX5_tryDeliver := goodIn_r _ [108, 10, 94, 37, 31, 17, 32, 33, 20, 66, 67, 68, 27, 69, 40, 41, 42, 28, 30, 109, 96, 110, 111, 112, 113, 114, 115, 103, 116, 117, 118, 119, 99, 14, 12, 15, 77, 78, 79, 7, 80, 54, 81, 82, 83, 22, 84, 85, 86, 87, 88, 89, 90, 120, 121, 122, 104, 50, 51, 52, 53, 55, 2, 3, 4, 24, 25, 26, 29, 123, 124, 125, 56, 57, 58, 59, 60, 61, 162, 163, 164, 165, 166, 167, 168, 169, 170, 171, 172, 173, 174, 175, 176, 177, 178, 179] (by decide +kernel) (by decide +kernel)
set_option maxRecDepth 20000 in
theorem gX4_turn_X5_tryDeliver_n45 : GoodIn wsX4_turn (wsX5_tryDeliver) := ggX4_turn_X5_tryDeliver
set_option maxRecDepth 20000 in
theorem ggX4_turn_X5_tryTake : GoodIn wsX4_turn wsX5_tryTake := goodIn_r _ [128, 10, 129, 130, 31, 17, 32, 33, 20, 131, 12, 132, 133, 134, 135, 21, 28, 30, 136, 137, 138, 22, 139, 140, 141, 142, 143, 144, 145, 146, 14, 15, 11, 13, 147, 148, 149, 162, 163, 164, 165, 166, 167, 168, 169, 170, 171, 172, 173, 174, 175, 176, 180] (by decide +kernel) (by decide +kernel)
set_option maxRecDepth 20000 in
theorem gX4_turn_X5_tryTake_n48 : GoodIn wsX4_turn (wsX5_tryTake) := ggX4_turn_X5_tryTake
set_option maxRecDepth 20000 in
theorem ggX4_turn_X5_tryBuy : GoodIn wsX4_turn wsX5_tryBuy := goodIn_r _ [152, 10, 54, 31, 17, 32, 33, 20, 131, 12, 132, 136, 137, 138, 22, 30, 56, 57, 58, 7, 59, 60, 61, 14, 15, 162, 163, 164, 165, 166, 167, 168, 169, 170, 171, 172, 173, 174, 175, 176] (by decide +kernel) (by decide +kernel)
set_option maxRecDepth 20000 in
theorem gX4_turn_X5_tryBuy_n51 : GoodIn wsX4_turn (wsX5_tryBuy) := ggX4_turn_X5_tryBuy
set_option maxRecDepth 20000 in
theorem ggX4_turn_X5_trySettle : GoodIn wsX4_turn wsX5_trySettle := goodIn_r _ [155, 130, 54, 14, 12, 15, 11, 13, 131, 132, 147, 140, 148, 149, 143, 144, 145, 146, 156, 157, 158, 56, 57, 58, 7, 59, 60, 61, 162, 163, 164, 165, 166, 167, 168, 169, 170, 180] (by decide +kernel) (by decide +kernel)
set_option maxRecDepth 20000 in
theorem gX4_turn_X5_trySettle_n54 : GoodIn wsX4_turn (wsX5_trySettle) := ggX4_turn_X5_trySettle
set_option maxRecDepth 20000 in
theorem ggX4_turn_X5_tryDays : GoodIn wsX4_turn wsX5_tryDays := goodIn_r _ [161, 37, 162, 163, 164, 165, 166, 167, 168, 169, 170] (by decide +kernel) (by decide +kernel)
set_option maxRecDepth 20000 in
theorem gX4_turn_X5_tryDays_n58 : GoodIn wsX4_turn (wsX5_tryDays) := ggX4_turn_X5_tryDays
theorem dX4_turn_0 : decode cX4_turn 0 = .ok (.iconst 1, 1) := by decide +kernel
theorem dX4_turn_1 : decode cX4_turn 1 = .ok (.aload_n 0, 1) := by decide +kernel
theorem dX4_turn_2 : decode cX4_turn 2 = .ok (.getfield 9, 3) := by decide +kernel
theorem dX4_turn_5 : decode cX4_turn 5 = .ok (.getfield 15, 3) := by decide +kernel
theorem dX4_turn_8 : decode cX4_turn 8 = .ok (.invokestatic 21, 3) := by decide +kernel
theorem dX4_turn_11 : decode cX4_turn 11 = .ok (.istore_n 2, 1) := by decide +kernel
theorem dX4_turn_12 : decode cX4_turn 12 = .ok (.iload_n 1, 1) := by decide +kernel
theorem dX4_turn_13 : decode cX4_turn 13 = .ok (.bipush 16, 2) := by decide +kernel
theorem dX4_turn_15 : decode cX4_turn 15 = .ok (.idiv, 1) := by decide +kernel
theorem dX4_turn_16 : decode cX4_turn 16 = .ok (.iload_n 2, 1) := by decide +kernel
theorem dX4_turn_17 : decode cX4_turn 17 = .ok (.irem, 1) := by decide +kernel
theorem dX4_turn_18 : decode cX4_turn 18 = .ok (.istore_n 3, 1) := by decide +kernel
theorem dX4_turn_19 : decode cX4_turn 19 = .ok (.iload_n 1, 1) := by decide +kernel
theorem dX4_turn_20 : decode cX4_turn 20 = .ok (.sipush 256, 3) := by decide +kernel
theorem dX4_turn_23 : decode cX4_turn 23 = .ok (.idiv, 1) := by decide +kernel
theorem dX4_turn_24 : decode cX4_turn 24 = .ok (.iload_n 2, 1) := by decide +kernel
theorem dX4_turn_25 : decode cX4_turn 25 = .ok (.irem, 1) := by decide +kernel
theorem dX4_turn_26 : decode cX4_turn 26 = .ok (.istore 4, 2) := by decide +kernel
theorem dX4_turn_28 : decode cX4_turn 28 = .ok (.iload_n 1, 1) := by decide +kernel
theorem dX4_turn_29 : decode cX4_turn 29 = .ok (.sipush 4096, 3) := by decide +kernel
theorem dX4_turn_32 : decode cX4_turn 32 = .ok (.idiv, 1) := by decide +kernel
theorem dX4_turn_33 : decode cX4_turn 33 = .ok (.iconst 5, 1) := by decide +kernel
theorem dX4_turn_34 : decode cX4_turn 34 = .ok (.irem, 1) := by decide +kernel
theorem dX4_turn_35 : decode cX4_turn 35 = .ok (.istore 5, 2) := by decide +kernel
theorem dX4_turn_37 : decode cX4_turn 37 = .ok (.iload_n 1, 1) := by decide +kernel
theorem dX4_turn_38 : decode cX4_turn 38 = .ok (.ldc 27, 2) := by decide +kernel
theorem dX4_turn_40 : decode cX4_turn 40 = .ok (.idiv, 1) := by decide +kernel
theorem dX4_turn_41 : decode cX4_turn 41 = .ok (.istore 6, 2) := by decide +kernel
theorem dX4_turn_43 : decode cX4_turn 43 = .ok (.iload_n 1, 1) := by decide +kernel
theorem dX4_turn_44 : decode cX4_turn 44 = .ok (.bipush 16, 2) := by decide +kernel
theorem dX4_turn_46 : decode cX4_turn 46 = .ok (.irem, 1) := by decide +kernel
theorem dX4_turn_47 : decode cX4_turn 47 = .ok (.tableswitch 189 0 14 #[73, 73, 73, 93, 93, 108, 114, 114, 122, 138, 144, 144, 144, 156, 166], 73) := by decide +kernel
theorem dX4_turn_120 : decode cX4_turn 120 = .ok (.aload_n 0, 1) := by decide +kernel
theorem dX4_turn_121 : decode cX4_turn 121 = .ok (.iload_n 1, 1) := by decide +kernel
theorem dX4_turn_122 : decode cX4_turn 122 = .ok (.bipush 16, 2) := by decide +kernel
theorem dX4_turn_124 : decode cX4_turn 124 = .ok (.idiv, 1) := by decide +kernel
theorem dX4_turn_125 : decode cX4_turn 125 = .ok (.iconst 3, 1) := by decide +kernel
theorem dX4_turn_126 : decode cX4_turn 126 = .ok (.irem, 1) := by decide +kernel
theorem dX4_turn_127 : decode cX4_turn 127 = .ok (.iload 5, 2) := by decide +kernel
theorem dX4_turn_129 : decode cX4_turn 129 = .ok (.iload_n 1, 1) := by decide +kernel
theorem dX4_turn_130 : decode cX4_turn 130 = .ok (.bipush 64, 2) := by decide +kernel
theorem dX4_turn_132 : decode cX4_turn 132 = .ok (.idiv, 1) := by decide +kernel
theorem dX4_turn_133 : decode cX4_turn 133 = .ok (.bipush 8, 2) := by decide +kernel
theorem dX4_turn_135 : decode cX4_turn 135 = .ok (.irem, 1) := by decide +kernel
theorem dX4_turn_136 : decode cX4_turn 136 = .ok (.invokevirtual 28, 3) := by decide +kernel
theorem dX4_turn_139 : decode cX4_turn 139 = .ok (.ireturn, 1) := by decide +kernel
theorem dX4_turn_140 : decode cX4_turn 140 = .ok (.aload_n 0, 1) := by decide +kernel
theorem dX4_turn_141 : decode cX4_turn 141 = .ok (.iload_n 3, 1) := by decide +kernel
theorem dX4_turn_142 : decode cX4_turn 142 = .ok (.iload 5, 2) := by decide +kernel
theorem dX4_turn_144 : decode cX4_turn 144 = .ok (.iconst 1, 1) := by decide +kernel
theorem dX4_turn_145 : decode cX4_turn 145 = .ok (.iload 6, 2) := by decide +kernel
theorem dX4_turn_147 : decode cX4_turn 147 = .ok (.bipush 9, 2) := by decide +kernel
theorem dX4_turn_149 : decode cX4_turn 149 = .ok (.irem, 1) := by decide +kernel
theorem dX4_turn_150 : decode cX4_turn 150 = .ok (.iadd, 1) := by decide +kernel
theorem dX4_turn_151 : decode cX4_turn 151 = .ok (.invokevirtual 32, 3) := by decide +kernel
theorem dX4_turn_154 : decode cX4_turn 154 = .ok (.ireturn, 1) := by decide +kernel
theorem dX4_turn_155 : decode cX4_turn 155 = .ok (.aload_n 0, 1) := by decide +kernel
theorem dX4_turn_156 : decode cX4_turn 156 = .ok (.iload_n 3, 1) := by decide +kernel
theorem dX4_turn_157 : decode cX4_turn 157 = .ok (.invokevirtual 35, 3) := by decide +kernel
theorem dX4_turn_160 : decode cX4_turn 160 = .ok (.ireturn, 1) := by decide +kernel
theorem dX4_turn_161 : decode cX4_turn 161 = .ok (.aload_n 0, 1) := by decide +kernel
theorem dX4_turn_162 : decode cX4_turn 162 = .ok (.iload_n 3, 1) := by decide +kernel
theorem dX4_turn_163 : decode cX4_turn 163 = .ok (.iload 4, 2) := by decide +kernel
theorem dX4_turn_165 : decode cX4_turn 165 = .ok (.invokevirtual 39, 3) := by decide +kernel
theorem dX4_turn_168 : decode cX4_turn 168 = .ok (.ireturn, 1) := by decide +kernel
theorem dX4_turn_169 : decode cX4_turn 169 = .ok (.aload_n 0, 1) := by decide +kernel
theorem dX4_turn_170 : decode cX4_turn 170 = .ok (.iload 5, 2) := by decide +kernel
theorem dX4_turn_172 : decode cX4_turn 172 = .ok (.iload 4, 2) := by decide +kernel
theorem dX4_turn_174 : decode cX4_turn 174 = .ok (.iconst 1, 1) := by decide +kernel
theorem dX4_turn_175 : decode cX4_turn 175 = .ok (.iload 6, 2) := by decide +kernel
theorem dX4_turn_177 : decode cX4_turn 177 = .ok (.bipush 9, 2) := by decide +kernel
theorem dX4_turn_179 : decode cX4_turn 179 = .ok (.irem, 1) := by decide +kernel
theorem dX4_turn_180 : decode cX4_turn 180 = .ok (.iadd, 1) := by decide +kernel
theorem dX4_turn_181 : decode cX4_turn 181 = .ok (.invokevirtual 42, 3) := by decide +kernel
theorem dX4_turn_184 : decode cX4_turn 184 = .ok (.ireturn, 1) := by decide +kernel
theorem dX4_turn_185 : decode cX4_turn 185 = .ok (.aload_n 0, 1) := by decide +kernel
theorem dX4_turn_186 : decode cX4_turn 186 = .ok (.iload_n 3, 1) := by decide +kernel
theorem dX4_turn_187 : decode cX4_turn 187 = .ok (.invokevirtual 45, 3) := by decide +kernel
theorem dX4_turn_190 : decode cX4_turn 190 = .ok (.ireturn, 1) := by decide +kernel
theorem dX4_turn_191 : decode cX4_turn 191 = .ok (.aload_n 0, 1) := by decide +kernel
theorem dX4_turn_192 : decode cX4_turn 192 = .ok (.iload_n 3, 1) := by decide +kernel
theorem dX4_turn_193 : decode cX4_turn 193 = .ok (.iload 4, 2) := by decide +kernel
theorem dX4_turn_195 : decode cX4_turn 195 = .ok (.iload 6, 2) := by decide +kernel
theorem dX4_turn_197 : decode cX4_turn 197 = .ok (.iconst 3, 1) := by decide +kernel
theorem dX4_turn_198 : decode cX4_turn 198 = .ok (.irem, 1) := by decide +kernel
theorem dX4_turn_199 : decode cX4_turn 199 = .ok (.invokevirtual 48, 3) := by decide +kernel
theorem dX4_turn_202 : decode cX4_turn 202 = .ok (.ireturn, 1) := by decide +kernel
theorem dX4_turn_203 : decode cX4_turn 203 = .ok (.aload_n 0, 1) := by decide +kernel
theorem dX4_turn_204 : decode cX4_turn 204 = .ok (.iload_n 3, 1) := by decide +kernel
theorem dX4_turn_205 : decode cX4_turn 205 = .ok (.iload 6, 2) := by decide +kernel
theorem dX4_turn_207 : decode cX4_turn 207 = .ok (.iconst 3, 1) := by decide +kernel
theorem dX4_turn_208 : decode cX4_turn 208 = .ok (.irem, 1) := by decide +kernel
theorem dX4_turn_209 : decode cX4_turn 209 = .ok (.invokevirtual 51, 3) := by decide +kernel
theorem dX4_turn_212 : decode cX4_turn 212 = .ok (.ireturn, 1) := by decide +kernel
theorem dX4_turn_213 : decode cX4_turn 213 = .ok (.aload_n 0, 1) := by decide +kernel
theorem dX4_turn_214 : decode cX4_turn 214 = .ok (.iload 5, 2) := by decide +kernel
theorem dX4_turn_216 : decode cX4_turn 216 = .ok (.iload 6, 2) := by decide +kernel
theorem dX4_turn_218 : decode cX4_turn 218 = .ok (.iconst 5, 1) := by decide +kernel
theorem dX4_turn_219 : decode cX4_turn 219 = .ok (.irem, 1) := by decide +kernel
theorem dX4_turn_220 : decode cX4_turn 220 = .ok (.iload_n 1, 1) := by decide +kernel
theorem dX4_turn_221 : decode cX4_turn 221 = .ok (.bipush 16, 2) := by decide +kernel
theorem dX4_turn_223 : decode cX4_turn 223 = .ok (.idiv, 1) := by decide +kernel
theorem dX4_turn_224 : decode cX4_turn 224 = .ok (.iconst 3, 1) := by decide +kernel
theorem dX4_turn_225 : decode cX4_turn 225 = .ok (.irem, 1) := by decide +kernel
theorem dX4_turn_226 : decode cX4_turn 226 = .ok (.iload_n 1, 1) := by decide +kernel
theorem dX4_turn_227 : decode cX4_turn 227 = .ok (.bipush 64, 2) := by decide +kernel
theorem dX4_turn_229 : decode cX4_turn 229 = .ok (.idiv, 1) := by decide +kernel
theorem dX4_turn_230 : decode cX4_turn 230 = .ok (.iconst 3, 1) := by decide +kernel
theorem dX4_turn_231 : decode cX4_turn 231 = .ok (.irem, 1) := by decide +kernel
theorem dX4_turn_232 : decode cX4_turn 232 = .ok (.invokevirtual 54, 3) := by decide +kernel
theorem dX4_turn_235 : decode cX4_turn 235 = .ok (.ireturn, 1) := by decide +kernel
theorem dX4_turn_236 : decode cX4_turn 236 = .ok (.aload_n 0, 1) := by decide +kernel
theorem dX4_turn_237 : decode cX4_turn 237 = .ok (.iconst 1, 1) := by decide +kernel
theorem dX4_turn_238 : decode cX4_turn 238 = .ok (.iload 6, 2) := by decide +kernel
theorem dX4_turn_240 : decode cX4_turn 240 = .ok (.bipush 9, 2) := by decide +kernel
theorem dX4_turn_242 : decode cX4_turn 242 = .ok (.irem, 1) := by decide +kernel
theorem dX4_turn_243 : decode cX4_turn 243 = .ok (.iadd, 1) := by decide +kernel
theorem dX4_turn_244 : decode cX4_turn 244 = .ok (.invokevirtual 58, 3) := by decide +kernel
theorem dX4_turn_247 : decode cX4_turn 247 = .ok (.ireturn, 1) := by decide +kernel
theorem dX6_init_0 : decode cX6_init 0 = .ok (.aload_n 0, 1) := by decide +kernel
theorem dX6_init_1 : decode cX6_init 1 = .ok (.invokespecial 3, 3) := by decide +kernel
theorem dX6_init_4 : decode cX6_init 4 = .ok (.aload_n 0, 1) := by decide +kernel
theorem dX6_init_5 : decode cX6_init 5 = .ok (.bipush 120, 2) := by decide +kernel
theorem dX6_init_7 : decode cX6_init 7 = .ok (.newarray .int, 2) := by decide +kernel
theorem dX6_init_9 : decode cX6_init 9 = .ok (.putfield 9, 3) := by decide +kernel
theorem dX6_init_12 : decode cX6_init 12 = .ok (.return_, 1) := by decide +kernel
theorem dX6_add_0 : decode cX6_add 0 = .ok (.aload_n 0, 1) := by decide +kernel
theorem dX6_add_1 : decode cX6_add 1 = .ok (.getfield 15, 3) := by decide +kernel
theorem dX6_add_4 : decode cX6_add 4 = .ok (.bipush 120, 2) := by decide +kernel
theorem dX6_add_6 : decode cX6_add 6 = .ok (.if_icmp .ge 23, 3) := by decide +kernel
theorem dX6_add_9 : decode cX6_add 9 = .ok (.aload_n 0, 1) := by decide +kernel
theorem dX6_add_10 : decode cX6_add 10 = .ok (.getfield 9, 3) := by decide +kernel
theorem dX6_add_13 : decode cX6_add 13 = .ok (.aload_n 0, 1) := by decide +kernel
theorem dX6_add_14 : decode cX6_add 14 = .ok (.getfield 15, 3) := by decide +kernel
theorem dX6_add_17 : decode cX6_add 17 = .ok (.iload_n 1, 1) := by decide +kernel
theorem dX6_add_18 : decode cX6_add 18 = .ok (.iastore, 1) := by decide +kernel
theorem dX6_add_19 : decode cX6_add 19 = .ok (.aload_n 0, 1) := by decide +kernel
theorem dX6_add_20 : decode cX6_add 20 = .ok (.dup, 1) := by decide +kernel
theorem dX6_add_21 : decode cX6_add 21 = .ok (.getfield 15, 3) := by decide +kernel
theorem dX6_add_24 : decode cX6_add 24 = .ok (.iconst 1, 1) := by decide +kernel
theorem dX6_add_25 : decode cX6_add 25 = .ok (.iadd, 1) := by decide +kernel
theorem dX6_add_26 : decode cX6_add 26 = .ok (.putfield 15, 3) := by decide +kernel
theorem dX6_add_29 : decode cX6_add 29 = .ok (.aload_n 0, 1) := by decide +kernel
theorem dX6_add_30 : decode cX6_add 30 = .ok (.getfield 15, 3) := by decide +kernel
theorem dX6_add_33 : decode cX6_add 33 = .ok (.ireturn, 1) := by decide +kernel
set_option maxRecDepth 20000 in
theorem ggX6_firstError_X6_readCommand : GoodIn wsX6_firstError wsX6_readCommand := goodIn_r _ [8, 3, 1, 2, 9, 10, 11, 7, 12, 13, 14, 15, 16, 17, 18, 19, 20, 21, 22, 23, 24, 25, 26, 27, 28, 29, 30, 31, 32, 33, 34, 35, 36, 37, 38, 39, 40, 41, 42, 43, 44, 45, 46, 47, 48, 49, 50, 51, 52, 53, 54, 55, 56, 57, 58, 59, 60, 61, 62, 63, 64, 65, 66, 67, 68, 69, 70, 71, 72, 73, 74, 75, 76, 77, 78, 79, 80, 81, 82, 83, 84, 85, 86, 87, 88, 89, 90, 91, 92] (by decide +kernel) (by decide +kernel)
set_option maxRecDepth 20000 in
theorem gX6_firstError_X6_readCommand : GoodIn wsX6_firstError (wsV RX6 19 RX6 yX6_readCommand wsX6_readCommand) := goodIn_app (goodIn_of _ (by decide +kernel)) ggX6_firstError_X6_readCommand
theorem dX6_firstError_0 : decode cX6_firstError 0 = .ok (.aload_n 0, 1) := by decide +kernel
theorem dX6_firstError_1 : decode cX6_firstError 1 = .ok (.getfield 15, 3) := by decide +kernel
theorem dX6_firstError_4 : decode cX6_firstError 4 = .ok (.ifCond .eq 14, 3) := by decide +kernel
theorem dX6_firstError_7 : decode cX6_firstError 7 = .ok (.aload_n 0, 1) := by decide +kernel
theorem dX6_firstError_8 : decode cX6_firstError 8 = .ok (.getfield 9, 3) := by decide +kernel
theorem dX6_firstError_11 : decode cX6_firstError 11 = .ok (.iconst 0, 1) := by decide +kernel
theorem dX6_firstError_12 : decode cX6_firstError 12 = .ok (.iaload, 1) := by decide +kernel
theorem dX6_firstError_13 : decode cX6_firstError 13 = .ok (.bipush 85, 2) := by decide +kernel
theorem dX6_firstError_15 : decode cX6_firstError 15 = .ok (.if_icmp .eq 5, 3) := by decide +kernel
theorem dX6_firstError_18 : decode cX6_firstError 18 = .ok (.iconst 0, 1) := by decide +kernel
theorem dX6_firstError_19 : decode cX6_firstError 19 = .ok (.ireturn, 1) := by decide +kernel
theorem dX6_firstError_20 : decode cX6_firstError 20 = .ok (.iconst 1, 1) := by decide +kernel
theorem dX6_firstError_21 : decode cX6_firstError 21 = .ok (.istore_n 1, 1) := by decide +kernel
theorem dX6_firstError_22 : decode cX6_firstError 22 = .ok (.iload_n 1, 1) := by decide +kernel
theorem dX6_firstError_23 : decode cX6_firstError 23 = .ok (.aload_n 0, 1) := by decide +kernel
theorem dX6_firstError_24 : decode cX6_firstError 24 = .ok (.getfield 15, 3) := by decide +kernel
theorem dX6_firstError_27 : decode cX6_firstError 27 = .ok (.if_icmp .ge 24, 3) := by decide +kernel
theorem dX6_firstError_30 : decode cX6_firstError 30 = .ok (.aload_n 0, 1) := by decide +kernel
theorem dX6_firstError_31 : decode cX6_firstError 31 = .ok (.iload_n 1, 1) := by decide +kernel
theorem dX6_firstError_32 : decode cX6_firstError 32 = .ok (.invokevirtual 19, 3) := by decide +kernel
theorem dX6_firstError_35 : decode cX6_firstError 35 = .ok (.istore_n 2, 1) := by decide +kernel
theorem dX6_firstError_36 : decode cX6_firstError 36 = .ok (.iload_n 2, 1) := by decide +kernel
theorem dX6_firstError_37 : decode cX6_firstError 37 = .ok (.iload_n 1, 1) := by decide +kernel
theorem dX6_firstError_38 : decode cX6_firstError 38 = .ok (.if_icmp .gt 8, 3) := by decide +kernel
theorem dX6_firstError_41 : decode cX6_firstError 41 = .ok (.aload_n 0, 1) := by decide +kernel
theorem dX6_firstError_42 : decode cX6_firstError 42 = .ok (.getfield 23, 3) := by decide +kernel
theorem dX6_firstError_45 : decode cX6_firstError 45 = .ok (.ireturn, 1) := by decide +kernel
theorem dX6_firstError_46 : decode cX6_firstError 46 = .ok (.iload_n 2, 1) := by decide +kernel
theorem dX6_firstError_47 : decode cX6_firstError 47 = .ok (.istore_n 1, 1) := by decide +kernel
theorem dX6_firstError_48 : decode cX6_firstError 48 = .ok (.goto (-26), 3) := by decide +kernel
theorem dX6_firstError_51 : decode cX6_firstError 51 = .ok (.iconst (-1), 1) := by decide +kernel
theorem dX6_firstError_52 : decode cX6_firstError 52 = .ok (.ireturn, 1) := by decide +kernel
set_option maxRecDepth 20000 in
theorem ggX6_readCommand_X6_fieldsOf : GoodIn wsX6_readCommand wsX6_fieldsOf := goodIn_r _ [8] (by decide +kernel) (by decide +kernel)
set_option maxRecDepth 20000 in
theorem gX6_readCommand_X6_fieldsOf : GoodIn wsX6_readCommand (va_wsS RX6 29 yX6_fieldsOf wsX6_fieldsOf) := goodIn_app (goodIn_of _ (by decide +kernel)) ggX6_readCommand_X6_fieldsOf
set_option maxRecDepth 20000 in
theorem ggX6_readCommand_J0_isEmpty_aae02 : GoodIn wsX6_readCommand wsJ0_isEmpty_aae02 := goodIn_r _ [13, 14] (by decide +kernel) (by decide +kernel)
set_option maxRecDepth 20000 in
theorem gX6_readCommand_J0_isEmpty_aae02 : GoodIn wsX6_readCommand (wsV RX6 33 RJ0 yJ0_isEmpty_aae02 wsJ0_isEmpty_aae02) := goodIn_app (goodIn_of _ (by decide +kernel)) ggX6_readCommand_J0_isEmpty_aae02
set_option maxRecDepth 20000 in
theorem ggX6_readCommand_J0_length_8abf5 : GoodIn wsX6_readCommand wsJ0_length_8abf5 := goodIn_r _ [18, 14, 19, 20, 21, 12, 22, 23, 24] (by decide +kernel) (by decide +kernel)
set_option maxRecDepth 20000 in
theorem gX6_readCommand_J0_length_8abf5 : GoodIn wsX6_readCommand (wsV RX6 39 RJ0 yJ0_length_8abf5 wsJ0_length_8abf5) := goodIn_app (goodIn_of _ (by decide +kernel)) ggX6_readCommand_J0_length_8abf5
set_option maxRecDepth 20000 in
theorem ggX6_readCommand_J0_charAt_5068e : GoodIn wsX6_readCommand wsJ0_charAt_5068e := goodIn_r _ [28, 14, 29, 30, 31, 12, 32, 23, 24, 33, 34, 35, 36, 37, 38, 39, 40, 41, 42, 43, 44, 45, 46, 47, 48, 49, 50, 51, 52, 53, 54, 55, 56, 57, 58, 59, 60, 61] (by decide +kernel) (by decide +kernel)
set_option maxRecDepth 20000 in
theorem gX6_readCommand_J0_charAt_5068e : GoodIn wsX6_readCommand (wsV RX6 42 RJ0 yJ0_charAt_5068e wsJ0_charAt_5068e) := goodIn_app (goodIn_of _ (by decide +kernel)) ggX6_readCommand_J0_charAt_5068e
set_option maxRecDepth 20000 in
theorem ggX6_readCommand_X6_readNumber : GoodIn wsX6_readCommand wsX6_readNumber := goodIn_r _ [65, 1, 2, 3, 66, 67, 7, 68, 69, 70, 71, 72, 73, 74, 82, 83, 84, 85, 86, 87, 88] (by decide +kernel) (by decide +kernel)
set_option maxRecDepth 20000 in
theorem gX6_readCommand_X6_readNumber : GoodIn wsX6_readCommand (wsV RX6 46 RX6 yX6_readNumber wsX6_readNumber) := goodIn_app (goodIn_of _ (by decide +kernel)) ggX6_readCommand_X6_readNumber
set_option maxRecDepth 20000 in
theorem ggX6_readCommand_X6_put : GoodIn wsX6_readCommand wsX6_put := goodIn_r _ [78, 79, 80, 81, 82, 83, 84, 85, 86, 87, 88] (by decide +kernel) (by decide +kernel)
set_option maxRecDepth 20000 in
theorem gX6_readCommand_X6_put : GoodIn wsX6_readCommand (wsV RX6 50 RX6 yX6_put wsX6_put) := goodIn_app (goodIn_of _ (by decide +kernel)) ggX6_readCommand_X6_put
set_option maxRecDepth 20000 in
theorem ggX6_readCommand_X6_digitsOf : GoodIn wsX6_readCommand wsX6_digitsOf := goodIn_r _ [68] (by decide +kernel) (by decide +kernel)
set_option maxRecDepth 20000 in
theorem gX6_readCommand_X6_digitsOf : GoodIn wsX6_readCommand (va_wsS RX6 54 yX6_digitsOf wsX6_digitsOf) := goodIn_app (goodIn_of _ (by decide +kernel)) ggX6_readCommand_X6_digitsOf
theorem dX6_readCommand_0 : decode cX6_readCommand 0 = .ok (.aload_n 0, 1) := by decide +kernel
theorem dX6_readCommand_1 : decode cX6_readCommand 1 = .ok (.iload_n 1, 1) := by decide +kernel
theorem dX6_readCommand_2 : decode cX6_readCommand 2 = .ok (.putfield 23, 3) := by decide +kernel
theorem dX6_readCommand_5 : decode cX6_readCommand 5 = .ok (.iload_n 1, 1) := by decide +kernel
theorem dX6_readCommand_6 : decode cX6_readCommand 6 = .ok (.ifCond .lt 11, 3) := by decide +kernel
theorem dX6_readCommand_9 : decode cX6_readCommand 9 = .ok (.iload_n 1, 1) := by decide +kernel
theorem dX6_readCommand_10 : decode cX6_readCommand 10 = .ok (.aload_n 0, 1) := by decide +kernel
theorem dX6_readCommand_11 : decode cX6_readCommand 11 = .ok (.getfield 15, 3) := by decide +kernel
theorem dX6_readCommand_14 : decode cX6_readCommand 14 = .ok (.if_icmp .lt 5, 3) := by decide +kernel
theorem dX6_readCommand_17 : decode cX6_readCommand 17 = .ok (.iconst (-1), 1) := by decide +kernel
theorem dX6_readCommand_18 : decode cX6_readCommand 18 = .ok (.ireturn, 1) := by decide +kernel
theorem dX6_readCommand_19 : decode cX6_readCommand 19 = .ok (.aload_n 0, 1) := by decide +kernel
theorem dX6_readCommand_20 : decode cX6_readCommand 20 = .ok (.aload_n 0, 1) := by decide +kernel
theorem dX6_readCommand_21 : decode cX6_readCommand 21 = .ok (.getfield 9, 3) := by decide +kernel
theorem dX6_readCommand_24 : decode cX6_readCommand 24 = .ok (.iload_n 1, 1) := by decide +kernel
theorem dX6_readCommand_25 : decode cX6_readCommand 25 = .ok (.iaload, 1) := by decide +kernel
theorem dX6_readCommand_26 : decode cX6_readCommand 26 = .ok (.putfield 26, 3) := by decide +kernel
theorem dX6_readCommand_29 : decode cX6_readCommand 29 = .ok (.aload_n 0, 1) := by decide +kernel
theorem dX6_readCommand_30 : decode cX6_readCommand 30 = .ok (.getfield 26, 3) := by decide +kernel
theorem dX6_readCommand_33 : decode cX6_readCommand 33 = .ok (.invokestatic 29, 3) := by decide +kernel
theorem dX6_readCommand_36 : decode cX6_readCommand 36 = .ok (.astore_n 2, 1) := by decide +kernel
theorem dX6_readCommand_37 : decode cX6_readCommand 37 = .ok (.aload_n 2, 1) := by decide +kernel
theorem dX6_readCommand_38 : decode cX6_readCommand 38 = .ok (.invokevirtual 33, 3) := by decide +kernel
theorem dX6_readCommand_41 : decode cX6_readCommand 41 = .ok (.ifCond .eq 5, 3) := by decide +kernel
theorem dX6_readCommand_44 : decode cX6_readCommand 44 = .ok (.iconst (-1), 1) := by decide +kernel
theorem dX6_readCommand_45 : decode cX6_readCommand 45 = .ok (.ireturn, 1) := by decide +kernel
theorem dX6_readCommand_46 : decode cX6_readCommand 46 = .ok (.iload_n 1, 1) := by decide +kernel
theorem dX6_readCommand_47 : decode cX6_readCommand 47 = .ok (.iconst 1, 1) := by decide +kernel
theorem dX6_readCommand_48 : decode cX6_readCommand 48 = .ok (.iadd, 1) := by decide +kernel
theorem dX6_readCommand_49 : decode cX6_readCommand 49 = .ok (.istore_n 3, 1) := by decide +kernel
theorem dX6_readCommand_50 : decode cX6_readCommand 50 = .ok (.iconst 0, 1) := by decide +kernel
theorem dX6_readCommand_51 : decode cX6_readCommand 51 = .ok (.istore 4, 2) := by decide +kernel
theorem dX6_readCommand_53 : decode cX6_readCommand 53 = .ok (.iload 4, 2) := by decide +kernel
theorem dX6_readCommand_55 : decode cX6_readCommand 55 = .ok (.aload_n 2, 1) := by decide +kernel
theorem dX6_readCommand_56 : decode cX6_readCommand 56 = .ok (.invokevirtual 39, 3) := by decide +kernel
theorem dX6_readCommand_59 : decode cX6_readCommand 59 = .ok (.if_icmp .ge 50, 3) := by decide +kernel
theorem dX6_readCommand_62 : decode cX6_readCommand 62 = .ok (.aload_n 2, 1) := by decide +kernel
theorem dX6_readCommand_63 : decode cX6_readCommand 63 = .ok (.iload 4, 2) := by decide +kernel
theorem dX6_readCommand_65 : decode cX6_readCommand 65 = .ok (.invokevirtual 42, 3) := by decide +kernel
theorem dX6_readCommand_68 : decode cX6_readCommand 68 = .ok (.istore 5, 2) := by decide +kernel
theorem dX6_readCommand_70 : decode cX6_readCommand 70 = .ok (.aload_n 0, 1) := by decide +kernel
theorem dX6_readCommand_71 : decode cX6_readCommand 71 = .ok (.iload_n 3, 1) := by decide +kernel
theorem dX6_readCommand_72 : decode cX6_readCommand 72 = .ok (.iload 5, 2) := by decide +kernel
theorem dX6_readCommand_74 : decode cX6_readCommand 74 = .ok (.invokevirtual 46, 3) := by decide +kernel
theorem dX6_readCommand_77 : decode cX6_readCommand 77 = .ok (.istore 6, 2) := by decide +kernel
theorem dX6_readCommand_79 : decode cX6_readCommand 79 = .ok (.iload 6, 2) := by decide +kernel
theorem dX6_readCommand_81 : decode cX6_readCommand 81 = .ok (.iconst (-1), 1) := by decide +kernel
theorem dX6_readCommand_82 : decode cX6_readCommand 82 = .ok (.if_icmp .ne 5, 3) := by decide +kernel
theorem dX6_readCommand_85 : decode cX6_readCommand 85 = .ok (.iconst (-1), 1) := by decide +kernel
theorem dX6_readCommand_86 : decode cX6_readCommand 86 = .ok (.ireturn, 1) := by decide +kernel
theorem dX6_readCommand_87 : decode cX6_readCommand 87 = .ok (.aload_n 0, 1) := by decide +kernel
theorem dX6_readCommand_88 : decode cX6_readCommand 88 = .ok (.iload 4, 2) := by decide +kernel
theorem dX6_readCommand_90 : decode cX6_readCommand 90 = .ok (.iload 6, 2) := by decide +kernel
theorem dX6_readCommand_92 : decode cX6_readCommand 92 = .ok (.invokevirtual 50, 3) := by decide +kernel
theorem dX6_readCommand_95 : decode cX6_readCommand 95 = .ok (.iload_n 3, 1) := by decide +kernel
theorem dX6_readCommand_96 : decode cX6_readCommand 96 = .ok (.iload 5, 2) := by decide +kernel
theorem dX6_readCommand_98 : decode cX6_readCommand 98 = .ok (.invokestatic 54, 3) := by decide +kernel
theorem dX6_readCommand_101 : decode cX6_readCommand 101 = .ok (.iadd, 1) := by decide +kernel
theorem dX6_readCommand_102 : decode cX6_readCommand 102 = .ok (.istore_n 3, 1) := by decide +kernel
theorem dX6_readCommand_103 : decode cX6_readCommand 103 = .ok (.iinc 4 1, 3) := by decide +kernel
theorem dX6_readCommand_106 : decode cX6_readCommand 106 = .ok (.goto (-53), 3) := by decide +kernel
theorem dX6_readCommand_109 : decode cX6_readCommand 109 = .ok (.iload_n 3, 1) := by decide +kernel
theorem dX6_readCommand_110 : decode cX6_readCommand 110 = .ok (.ireturn, 1) := by decide +kernel
theorem dX6_put_0 : decode cX6_put 0 = .ok (.iload_n 1, 1) := by decide +kernel
theorem dX6_put_1 : decode cX6_put 1 = .ok (.ifCond .ne 11, 3) := by decide +kernel
theorem dX6_put_4 : decode cX6_put 4 = .ok (.aload_n 0, 1) := by decide +kernel
theorem dX6_put_5 : decode cX6_put 5 = .ok (.iload_n 2, 1) := by decide +kernel
theorem dX6_put_6 : decode cX6_put 6 = .ok (.putfield 57, 3) := by decide +kernel
theorem dX6_put_9 : decode cX6_put 9 = .ok (.goto 21, 3) := by decide +kernel
theorem dX6_put_12 : decode cX6_put 12 = .ok (.iload_n 1, 1) := by decide +kernel
theorem dX6_put_13 : decode cX6_put 13 = .ok (.iconst 1, 1) := by decide +kernel
theorem dX6_put_14 : decode cX6_put 14 = .ok (.if_icmp .ne 11, 3) := by decide +kernel
theorem dX6_put_17 : decode cX6_put 17 = .ok (.aload_n 0, 1) := by decide +kernel
theorem dX6_put_18 : decode cX6_put 18 = .ok (.iload_n 2, 1) := by decide +kernel
theorem dX6_put_19 : decode cX6_put 19 = .ok (.putfield 60, 3) := by decide +kernel
theorem dX6_put_22 : decode cX6_put 22 = .ok (.goto 8, 3) := by decide +kernel
theorem dX6_put_25 : decode cX6_put 25 = .ok (.aload_n 0, 1) := by decide +kernel
theorem dX6_put_26 : decode cX6_put 26 = .ok (.iload_n 2, 1) := by decide +kernel
theorem dX6_put_27 : decode cX6_put 27 = .ok (.putfield 63, 3) := by decide +kernel
theorem dX6_put_30 : decode cX6_put 30 = .ok (.return_, 1) := by decide +kernel
set_option maxRecDepth 20000 in
theorem ggX6_readNumber_X6_digitsOf : GoodIn wsX6_readNumber wsX6_digitsOf := goodIn_r _ [7] (by decide +kernel) (by decide +kernel)
set_option maxRecDepth 20000 in
theorem gX6_readNumber_X6_digitsOf : GoodIn wsX6_readNumber (va_wsS RX6 54 yX6_digitsOf wsX6_digitsOf) := goodIn_app (goodIn_of _ (by decide +kernel)) ggX6_readNumber_X6_digitsOf
set_option maxRecDepth 20000 in
theorem ggX6_readNumber_X6_lowestOf : GoodIn wsX6_readNumber wsX6_lowestOf := goodIn_r _ [10] (by decide +kernel) (by decide +kernel)
set_option maxRecDepth 20000 in
theorem gX6_readNumber_X6_lowestOf : GoodIn wsX6_readNumber (va_wsS RX6 66 yX6_lowestOf wsX6_lowestOf) := goodIn_app (goodIn_of _ (by decide +kernel)) ggX6_readNumber_X6_lowestOf
set_option maxRecDepth 20000 in
theorem ggX6_readNumber_X6_highestOf : GoodIn wsX6_readNumber wsX6_highestOf := goodIn_r _ [13] (by decide +kernel) (by decide +kernel)
set_option maxRecDepth 20000 in
theorem gX6_readNumber_X6_highestOf : GoodIn wsX6_readNumber (va_wsS RX6 69 yX6_highestOf wsX6_highestOf) := goodIn_app (goodIn_of _ (by decide +kernel)) ggX6_readNumber_X6_highestOf
theorem dX6_readNumber_0 : decode cX6_readNumber 0 = .ok (.iload_n 2, 1) := by decide +kernel
theorem dX6_readNumber_1 : decode cX6_readNumber 1 = .ok (.invokestatic 54, 3) := by decide +kernel
theorem dX6_readNumber_4 : decode cX6_readNumber 4 = .ok (.istore_n 3, 1) := by decide +kernel
theorem dX6_readNumber_5 : decode cX6_readNumber 5 = .ok (.iload_n 2, 1) := by decide +kernel
theorem dX6_readNumber_6 : decode cX6_readNumber 6 = .ok (.invokestatic 66, 3) := by decide +kernel
theorem dX6_readNumber_9 : decode cX6_readNumber 9 = .ok (.istore 4, 2) := by decide +kernel
theorem dX6_readNumber_11 : decode cX6_readNumber 11 = .ok (.iload_n 2, 1) := by decide +kernel
theorem dX6_readNumber_12 : decode cX6_readNumber 12 = .ok (.invokestatic 69, 3) := by decide +kernel
theorem dX6_readNumber_15 : decode cX6_readNumber 15 = .ok (.istore 5, 2) := by decide +kernel
theorem dX6_readNumber_17 : decode cX6_readNumber 17 = .ok (.iconst 0, 1) := by decide +kernel
theorem dX6_readNumber_18 : decode cX6_readNumber 18 = .ok (.istore 6, 2) := by decide +kernel
theorem dX6_readNumber_20 : decode cX6_readNumber 20 = .ok (.iload_n 3, 1) := by decide +kernel
theorem dX6_readNumber_21 : decode cX6_readNumber 21 = .ok (.iconst 2, 1) := by decide +kernel
theorem dX6_readNumber_22 : decode cX6_readNumber 22 = .ok (.if_icmp .ne 8, 3) := by decide +kernel
theorem dX6_readNumber_25 : decode cX6_readNumber 25 = .ok (.bipush 10, 2) := by decide +kernel
theorem dX6_readNumber_27 : decode cX6_readNumber 27 = .ok (.goto 4, 3) := by decide +kernel
theorem dX6_readNumber_30 : decode cX6_readNumber 30 = .ok (.iconst 1, 1) := by decide +kernel
theorem dX6_readNumber_31 : decode cX6_readNumber 31 = .ok (.istore 7, 2) := by decide +kernel
theorem dX6_readNumber_33 : decode cX6_readNumber 33 = .ok (.iconst 0, 1) := by decide +kernel
theorem dX6_readNumber_34 : decode cX6_readNumber 34 = .ok (.istore 8, 2) := by decide +kernel
theorem dX6_readNumber_36 : decode cX6_readNumber 36 = .ok (.iload 8, 2) := by decide +kernel
theorem dX6_readNumber_38 : decode cX6_readNumber 38 = .ok (.iload_n 3, 1) := by decide +kernel
theorem dX6_readNumber_39 : decode cX6_readNumber 39 = .ok (.if_icmp .ge 107, 3) := by decide +kernel
theorem dX6_readNumber_42 : decode cX6_readNumber 42 = .ok (.iload_n 1, 1) := by decide +kernel
theorem dX6_readNumber_43 : decode cX6_readNumber 43 = .ok (.iload 8, 2) := by decide +kernel
theorem dX6_readNumber_45 : decode cX6_readNumber 45 = .ok (.iadd, 1) := by decide +kernel
theorem dX6_readNumber_46 : decode cX6_readNumber 46 = .ok (.istore 9, 2) := by decide +kernel
theorem dX6_readNumber_48 : decode cX6_readNumber 48 = .ok (.aload_n 0, 1) := by decide +kernel
theorem dX6_readNumber_49 : decode cX6_readNumber 49 = .ok (.iload 9, 2) := by decide +kernel
theorem dX6_readNumber_51 : decode cX6_readNumber 51 = .ok (.putfield 23, 3) := by decide +kernel
theorem dX6_readNumber_54 : decode cX6_readNumber 54 = .ok (.iload 9, 2) := by decide +kernel
theorem dX6_readNumber_56 : decode cX6_readNumber 56 = .ok (.ifCond .lt 36, 3) := by decide +kernel
theorem dX6_readNumber_59 : decode cX6_readNumber 59 = .ok (.iload 9, 2) := by decide +kernel
theorem dX6_readNumber_61 : decode cX6_readNumber 61 = .ok (.aload_n 0, 1) := by decide +kernel
theorem dX6_readNumber_62 : decode cX6_readNumber 62 = .ok (.getfield 15, 3) := by decide +kernel
theorem dX6_readNumber_65 : decode cX6_readNumber 65 = .ok (.if_icmp .ge 27, 3) := by decide +kernel
theorem dX6_readNumber_68 : decode cX6_readNumber 68 = .ok (.aload_n 0, 1) := by decide +kernel
theorem dX6_readNumber_69 : decode cX6_readNumber 69 = .ok (.getfield 9, 3) := by decide +kernel
theorem dX6_readNumber_72 : decode cX6_readNumber 72 = .ok (.iload 9, 2) := by decide +kernel
theorem dX6_readNumber_74 : decode cX6_readNumber 74 = .ok (.iaload, 1) := by decide +kernel
theorem dX6_readNumber_75 : decode cX6_readNumber 75 = .ok (.bipush 48, 2) := by decide +kernel
theorem dX6_readNumber_77 : decode cX6_readNumber 77 = .ok (.if_icmp .lt 15, 3) := by decide +kernel
theorem dX6_readNumber_80 : decode cX6_readNumber 80 = .ok (.aload_n 0, 1) := by decide +kernel
theorem dX6_readNumber_81 : decode cX6_readNumber 81 = .ok (.getfield 9, 3) := by decide +kernel
theorem dX6_readNumber_84 : decode cX6_readNumber 84 = .ok (.iload 9, 2) := by decide +kernel
theorem dX6_readNumber_86 : decode cX6_readNumber 86 = .ok (.iaload, 1) := by decide +kernel
theorem dX6_readNumber_87 : decode cX6_readNumber 87 = .ok (.bipush 57, 2) := by decide +kernel
theorem dX6_readNumber_89 : decode cX6_readNumber 89 = .ok (.if_icmp .le 5, 3) := by decide +kernel
theorem dX6_readNumber_92 : decode cX6_readNumber 92 = .ok (.iconst (-1), 1) := by decide +kernel
theorem dX6_readNumber_93 : decode cX6_readNumber 93 = .ok (.ireturn, 1) := by decide +kernel
theorem dX6_readNumber_94 : decode cX6_readNumber 94 = .ok (.iload 6, 2) := by decide +kernel
theorem dX6_readNumber_96 : decode cX6_readNumber 96 = .ok (.aload_n 0, 1) := by decide +kernel
theorem dX6_readNumber_97 : decode cX6_readNumber 97 = .ok (.getfield 9, 3) := by decide +kernel
theorem dX6_readNumber_100 : decode cX6_readNumber 100 = .ok (.iload 9, 2) := by decide +kernel
theorem dX6_readNumber_102 : decode cX6_readNumber 102 = .ok (.iaload, 1) := by decide +kernel
theorem dX6_readNumber_103 : decode cX6_readNumber 103 = .ok (.bipush 48, 2) := by decide +kernel
theorem dX6_readNumber_105 : decode cX6_readNumber 105 = .ok (.isub, 1) := by decide +kernel
theorem dX6_readNumber_106 : decode cX6_readNumber 106 = .ok (.iload 7, 2) := by decide +kernel
theorem dX6_readNumber_108 : decode cX6_readNumber 108 = .ok (.imul, 1) := by decide +kernel
theorem dX6_readNumber_109 : decode cX6_readNumber 109 = .ok (.iadd, 1) := by decide +kernel
theorem dX6_readNumber_110 : decode cX6_readNumber 110 = .ok (.istore 6, 2) := by decide +kernel
theorem dX6_readNumber_112 : decode cX6_readNumber 112 = .ok (.iload 6, 2) := by decide +kernel
theorem dX6_readNumber_114 : decode cX6_readNumber 114 = .ok (.iload 5, 2) := by decide +kernel
theorem dX6_readNumber_116 : decode cX6_readNumber 116 = .ok (.if_icmp .gt 15, 3) := by decide +kernel
theorem dX6_readNumber_119 : decode cX6_readNumber 119 = .ok (.iload 6, 2) := by decide +kernel
theorem dX6_readNumber_121 : decode cX6_readNumber 121 = .ok (.iload 7, 2) := by decide +kernel
theorem dX6_readNumber_123 : decode cX6_readNumber 123 = .ok (.iadd, 1) := by decide +kernel
theorem dX6_readNumber_124 : decode cX6_readNumber 124 = .ok (.iconst 1, 1) := by decide +kernel
theorem dX6_readNumber_125 : decode cX6_readNumber 125 = .ok (.isub, 1) := by decide +kernel
theorem dX6_readNumber_126 : decode cX6_readNumber 126 = .ok (.iload 4, 2) := by decide +kernel
theorem dX6_readNumber_128 : decode cX6_readNumber 128 = .ok (.if_icmp .ge 5, 3) := by decide +kernel
theorem dX6_readNumber_131 : decode cX6_readNumber 131 = .ok (.iconst (-1), 1) := by decide +kernel
theorem dX6_readNumber_132 : decode cX6_readNumber 132 = .ok (.ireturn, 1) := by decide +kernel
theorem dX6_readNumber_133 : decode cX6_readNumber 133 = .ok (.iload 7, 2) := by decide +kernel
theorem dX6_readNumber_135 : decode cX6_readNumber 135 = .ok (.bipush 10, 2) := by decide +kernel
theorem dX6_readNumber_137 : decode cX6_readNumber 137 = .ok (.idiv, 1) := by decide +kernel
theorem dX6_readNumber_138 : decode cX6_readNumber 138 = .ok (.istore 7, 2) := by decide +kernel
theorem dX6_readNumber_140 : decode cX6_readNumber 140 = .ok (.iinc 8 1, 3) := by decide +kernel
theorem dX6_readNumber_143 : decode cX6_readNumber 143 = .ok (.goto (-107), 3) := by decide +kernel
theorem dX6_readNumber_146 : decode cX6_readNumber 146 = .ok (.iload 6, 2) := by decide +kernel
theorem dX6_readNumber_148 : decode cX6_readNumber 148 = .ok (.ireturn, 1) := by decide +kernel
theorem dX6_fieldsOf_0 : decode cX6_fieldsOf 0 = .ok (.iload_n 0, 1) := by decide +kernel
theorem dX6_fieldsOf_1 : decode cX6_fieldsOf 1 = .ok (.lookupswitch 77 #[(100, 74), (108, 62), (110, 59), (114, 65), (116, 71), (120, 68)], 59) := by decide +kernel
theorem dX6_fieldsOf_60 : decode cX6_fieldsOf 60 = .ok (.ldc 72, 2) := by decide +kernel
theorem dX6_fieldsOf_62 : decode cX6_fieldsOf 62 = .ok (.areturn, 1) := by decide +kernel
theorem dX6_fieldsOf_63 : decode cX6_fieldsOf 63 = .ok (.ldc 74, 2) := by decide +kernel
theorem dX6_fieldsOf_65 : decode cX6_fieldsOf 65 = .ok (.areturn, 1) := by decide +kernel
theorem dX6_fieldsOf_66 : decode cX6_fieldsOf 66 = .ok (.ldc 76, 2) := by decide +kernel
theorem dX6_fieldsOf_68 : decode cX6_fieldsOf 68 = .ok (.areturn, 1) := by decide +kernel
theorem dX6_fieldsOf_69 : decode cX6_fieldsOf 69 = .ok (.ldc 78, 2) := by decide +kernel
theorem dX6_fieldsOf_71 : decode cX6_fieldsOf 71 = .ok (.areturn, 1) := by decide +kernel
theorem dX6_fieldsOf_72 : decode cX6_fieldsOf 72 = .ok (.ldc 80, 2) := by decide +kernel
theorem dX6_fieldsOf_74 : decode cX6_fieldsOf 74 = .ok (.areturn, 1) := by decide +kernel
theorem dX6_fieldsOf_75 : decode cX6_fieldsOf 75 = .ok (.ldc 82, 2) := by decide +kernel
theorem dX6_fieldsOf_77 : decode cX6_fieldsOf 77 = .ok (.areturn, 1) := by decide +kernel
theorem dX6_fieldsOf_78 : decode cX6_fieldsOf 78 = .ok (.ldc 84, 2) := by decide +kernel
theorem dX6_fieldsOf_80 : decode cX6_fieldsOf 80 = .ok (.areturn, 1) := by decide +kernel
theorem dX6_digitsOf_0 : decode cX6_digitsOf 0 = .ok (.iload_n 0, 1) := by decide +kernel
theorem dX6_digitsOf_1 : decode cX6_digitsOf 1 = .ok (.bipush 117, 2) := by decide +kernel
theorem dX6_digitsOf_3 : decode cX6_digitsOf 3 = .ok (.if_icmp .eq 9, 3) := by decide +kernel
theorem dX6_digitsOf_6 : decode cX6_digitsOf 6 = .ok (.iload_n 0, 1) := by decide +kernel
theorem dX6_digitsOf_7 : decode cX6_digitsOf 7 = .ok (.bipush 116, 2) := by decide +kernel
theorem dX6_digitsOf_9 : decode cX6_digitsOf 9 = .ok (.if_icmp .ne 7, 3) := by decide +kernel
theorem dX6_digitsOf_12 : decode cX6_digitsOf 12 = .ok (.iconst 2, 1) := by decide +kernel
theorem dX6_digitsOf_13 : decode cX6_digitsOf 13 = .ok (.goto 4, 3) := by decide +kernel
theorem dX6_digitsOf_16 : decode cX6_digitsOf 16 = .ok (.iconst 1, 1) := by decide +kernel
theorem dX6_digitsOf_17 : decode cX6_digitsOf 17 = .ok (.ireturn, 1) := by decide +kernel
theorem dX6_lowestOf_0 : decode cX6_lowestOf 0 = .ok (.iload_n 0, 1) := by decide +kernel
theorem dX6_lowestOf_1 : decode cX6_lowestOf 1 = .ok (.bipush 116, 2) := by decide +kernel
theorem dX6_lowestOf_3 : decode cX6_lowestOf 3 = .ok (.if_icmp .eq 9, 3) := by decide +kernel
theorem dX6_lowestOf_6 : decode cX6_lowestOf 6 = .ok (.iload_n 0, 1) := by decide +kernel
theorem dX6_lowestOf_7 : decode cX6_lowestOf 7 = .ok (.bipush 110, 2) := by decide +kernel
theorem dX6_lowestOf_9 : decode cX6_lowestOf 9 = .ok (.if_icmp .ne 7, 3) := by decide +kernel
theorem dX6_lowestOf_12 : decode cX6_lowestOf 12 = .ok (.iconst 1, 1) := by decide +kernel
theorem dX6_lowestOf_13 : decode cX6_lowestOf 13 = .ok (.goto 4, 3) := by decide +kernel
theorem dX6_lowestOf_16 : decode cX6_lowestOf 16 = .ok (.iconst 0, 1) := by decide +kernel
theorem dX6_lowestOf_17 : decode cX6_lowestOf 17 = .ok (.ireturn, 1) := by decide +kernel
theorem dX6_highestOf_0 : decode cX6_highestOf 0 = .ok (.iload_n 0, 1) := by decide +kernel
theorem dX6_highestOf_1 : decode cX6_highestOf 1 = .ok (.tableswitch 110 98 117 #[99, 110, 110, 110, 110, 110, 97, 110, 110, 95, 110, 110, 110, 110, 108, 110, 110, 110, 105, 102], 95) := by decide +kernel
theorem dX6_highestOf_96 : decode cX6_highestOf 96 = .ok (.iconst 2, 1) := by decide +kernel
theorem dX6_highestOf_97 : decode cX6_highestOf 97 = .ok (.ireturn, 1) := by decide +kernel
theorem dX6_highestOf_98 : decode cX6_highestOf 98 = .ok (.iconst 4, 1) := by decide +kernel
theorem dX6_highestOf_99 : decode cX6_highestOf 99 = .ok (.ireturn, 1) := by decide +kernel
theorem dX6_highestOf_100 : decode cX6_highestOf 100 = .ok (.bipush 7, 2) := by decide +kernel
theorem dX6_highestOf_102 : decode cX6_highestOf 102 = .ok (.ireturn, 1) := by decide +kernel
theorem dX6_highestOf_103 : decode cX6_highestOf 103 = .ok (.bipush 15, 2) := by decide +kernel
theorem dX6_highestOf_105 : decode cX6_highestOf 105 = .ok (.ireturn, 1) := by decide +kernel
theorem dX6_highestOf_106 : decode cX6_highestOf 106 = .ok (.bipush 30, 2) := by decide +kernel
theorem dX6_highestOf_108 : decode cX6_highestOf 108 = .ok (.ireturn, 1) := by decide +kernel
theorem dX6_highestOf_109 : decode cX6_highestOf 109 = .ok (.iconst 2, 1) := by decide +kernel
theorem dX6_highestOf_110 : decode cX6_highestOf 110 = .ok (.ireturn, 1) := by decide +kernel
theorem dX6_highestOf_111 : decode cX6_highestOf 111 = .ok (.bipush 9, 2) := by decide +kernel
theorem dX6_highestOf_113 : decode cX6_highestOf 113 = .ok (.ireturn, 1) := by decide +kernel
