set_option maxRecDepth 20000 in
theorem ggX5_init_X7_init : GoodIn wsX5_init wsX7_init := goodIn_r _ [24, 25, 2, 3, 16, 26, 27, 28, 29, 30, 41, 42, 43, 44, 45, 46] (by decide +kernel) (by decide +kernel)
set_option maxRecDepth 20000 in
theorem gX5_init_X7_init_n11 : GoodIn wsX5_init (wsX7_init) := ggX5_init_X7_init
set_option maxRecDepth 20000 in
theorem ggX5_init_X0_init : GoodIn wsX5_init wsX0_init := goodIn_r _ [32, 33, 2, 3, 16, 34, 35, 36, 56, 57, 58] (by decide +kernel) (by decide +kernel)
set_option maxRecDepth 20000 in
theorem gX5_init_X0_init_n20 : GoodIn wsX5_init (wsX0_init) := ggX5_init_X0_init
set_option maxRecDepth 20000 in
theorem ggX5_init_X1_init : GoodIn wsX5_init wsX1_init := goodIn_r _ [38, 39, 2, 3, 16, 40, 59] (by decide +kernel) (by decide +kernel)
set_option maxRecDepth 20000 in
theorem gX5_init_X1_init_n27 : GoodIn wsX5_init (wsX1_init) := ggX5_init_X1_init
theorem dX5_init_0 : decode cX5_init 0 = .ok (.aload_n 0, 1) := by decide +kernel
theorem dX5_init_1 : decode cX5_init 1 = .ok (.invokespecial 3, 3) := by decide +kernel
theorem dX5_init_4 : decode cX5_init 4 = .ok (.aload_n 0, 1) := by decide +kernel
theorem dX5_init_5 : decode cX5_init 5 = .ok (.new 9, 3) := by decide +kernel
theorem dX5_init_8 : decode cX5_init 8 = .ok (.dup, 1) := by decide +kernel
theorem dX5_init_9 : decode cX5_init 9 = .ok (.invokespecial 11, 3) := by decide +kernel
theorem dX5_init_12 : decode cX5_init 12 = .ok (.putfield 12, 3) := by decide +kernel
theorem dX5_init_15 : decode cX5_init 15 = .ok (.aload_n 0, 1) := by decide +kernel
theorem dX5_init_16 : decode cX5_init 16 = .ok (.new 18, 3) := by decide +kernel
theorem dX5_init_19 : decode cX5_init 19 = .ok (.dup, 1) := by decide +kernel
theorem dX5_init_20 : decode cX5_init 20 = .ok (.invokespecial 20, 3) := by decide +kernel
theorem dX5_init_23 : decode cX5_init 23 = .ok (.putfield 21, 3) := by decide +kernel
theorem dX5_init_26 : decode cX5_init 26 = .ok (.aload_n 0, 1) := by decide +kernel
theorem dX5_init_27 : decode cX5_init 27 = .ok (.new 25, 3) := by decide +kernel
theorem dX5_init_30 : decode cX5_init 30 = .ok (.dup, 1) := by decide +kernel
theorem dX5_init_31 : decode cX5_init 31 = .ok (.invokespecial 27, 3) := by decide +kernel
theorem dX5_init_34 : decode cX5_init 34 = .ok (.putfield 28, 3) := by decide +kernel
theorem dX5_init_37 : decode cX5_init 37 = .ok (.aload_n 0, 1) := by decide +kernel
theorem dX5_init_38 : decode cX5_init 38 = .ok (.iconst 5, 1) := by decide +kernel
theorem dX5_init_39 : decode cX5_init 39 = .ok (.newarray .int, 2) := by decide +kernel
theorem dX5_init_41 : decode cX5_init 41 = .ok (.putfield 32, 3) := by decide +kernel
theorem dX5_init_44 : decode cX5_init 44 = .ok (.aload_n 0, 1) := by decide +kernel
theorem dX5_init_45 : decode cX5_init 45 = .ok (.iconst 3, 1) := by decide +kernel
theorem dX5_init_46 : decode cX5_init 46 = .ok (.newarray .int, 2) := by decide +kernel
theorem dX5_init_48 : decode cX5_init 48 = .ok (.putfield 36, 3) := by decide +kernel
theorem dX5_init_51 : decode cX5_init 51 = .ok (.getstatic 39, 3) := by decide +kernel
theorem dX5_init_54 : decode cX5_init 54 = .ok (.iconst 0, 1) := by decide +kernel
theorem dX5_init_55 : decode cX5_init 55 = .ok (.aload_n 0, 1) := by decide +kernel
theorem dX5_init_56 : decode cX5_init 56 = .ok (.getfield 36, 3) := by decide +kernel
theorem dX5_init_59 : decode cX5_init 59 = .ok (.iconst 0, 1) := by decide +kernel
theorem dX5_init_60 : decode cX5_init 60 = .ok (.iconst 3, 1) := by decide +kernel
theorem dX5_init_61 : decode cX5_init 61 = .ok (.invokestatic 42, 3) := by decide +kernel
theorem dX5_init_64 : decode cX5_init 64 = .ok (.return_, 1) := by decide +kernel
set_option maxRecDepth 20000 in
theorem ggX5_startAnew_X0_clear : GoodIn wsX5_startAnew wsX0_clear := goodIn_r _ [17, 18, 39, 40, 41] (by decide +kernel) (by decide +kernel)
set_option maxRecDepth 20000 in
theorem gX5_startAnew_X0_clear_n52 : GoodIn wsX5_startAnew (wsX0_clear) := ggX5_startAnew_X0_clear
set_option maxRecDepth 20000 in
theorem ggX5_startAnew_X1_clear : GoodIn wsX5_startAnew wsX1_clear := goodIn_r _ [22, 23, 42] (by decide +kernel) (by decide +kernel)
set_option maxRecDepth 20000 in
theorem gX5_startAnew_X1_clear_n55 : GoodIn wsX5_startAnew (wsX1_clear) := ggX5_startAnew_X1_clear
theorem dX5_startAnew_0 : decode cX5_startAnew 0 = .ok (.aload_n 0, 1) := by decide +kernel
theorem dX5_startAnew_1 : decode cX5_startAnew 1 = .ok (.getfield 12, 3) := by decide +kernel
theorem dX5_startAnew_4 : decode cX5_startAnew 4 = .ok (.iconst 0, 1) := by decide +kernel
theorem dX5_startAnew_5 : decode cX5_startAnew 5 = .ok (.putfield 48, 3) := by decide +kernel
theorem dX5_startAnew_8 : decode cX5_startAnew 8 = .ok (.aload_n 0, 1) := by decide +kernel
theorem dX5_startAnew_9 : decode cX5_startAnew 9 = .ok (.getfield 21, 3) := by decide +kernel
theorem dX5_startAnew_12 : decode cX5_startAnew 12 = .ok (.invokevirtual 52, 3) := by decide +kernel
theorem dX5_startAnew_15 : decode cX5_startAnew 15 = .ok (.aload_n 0, 1) := by decide +kernel
theorem dX5_startAnew_16 : decode cX5_startAnew 16 = .ok (.getfield 28, 3) := by decide +kernel
theorem dX5_startAnew_19 : decode cX5_startAnew 19 = .ok (.invokevirtual 55, 3) := by decide +kernel
theorem dX5_startAnew_22 : decode cX5_startAnew 22 = .ok (.iconst 0, 1) := by decide +kernel
theorem dX5_startAnew_23 : decode cX5_startAnew 23 = .ok (.istore_n 1, 1) := by decide +kernel
theorem dX5_startAnew_24 : decode cX5_startAnew 24 = .ok (.iload_n 1, 1) := by decide +kernel
theorem dX5_startAnew_25 : decode cX5_startAnew 25 = .ok (.iconst 5, 1) := by decide +kernel
theorem dX5_startAnew_26 : decode cX5_startAnew 26 = .ok (.if_icmp .ge 16, 3) := by decide +kernel
theorem dX5_startAnew_29 : decode cX5_startAnew 29 = .ok (.aload_n 0, 1) := by decide +kernel
theorem dX5_startAnew_30 : decode cX5_startAnew 30 = .ok (.getfield 32, 3) := by decide +kernel
theorem dX5_startAnew_33 : decode cX5_startAnew 33 = .ok (.iload_n 1, 1) := by decide +kernel
theorem dX5_startAnew_34 : decode cX5_startAnew 34 = .ok (.iconst 0, 1) := by decide +kernel
theorem dX5_startAnew_35 : decode cX5_startAnew 35 = .ok (.iastore, 1) := by decide +kernel
theorem dX5_startAnew_36 : decode cX5_startAnew 36 = .ok (.iinc 1 1, 3) := by decide +kernel
theorem dX5_startAnew_39 : decode cX5_startAnew 39 = .ok (.goto (-15), 3) := by decide +kernel
theorem dX5_startAnew_42 : decode cX5_startAnew 42 = .ok (.getstatic 39, 3) := by decide +kernel
theorem dX5_startAnew_45 : decode cX5_startAnew 45 = .ok (.iconst 0, 1) := by decide +kernel
theorem dX5_startAnew_46 : decode cX5_startAnew 46 = .ok (.aload_n 0, 1) := by decide +kernel
theorem dX5_startAnew_47 : decode cX5_startAnew 47 = .ok (.getfield 36, 3) := by decide +kernel
theorem dX5_startAnew_50 : decode cX5_startAnew 50 = .ok (.iconst 0, 1) := by decide +kernel
theorem dX5_startAnew_51 : decode cX5_startAnew 51 = .ok (.iconst 3, 1) := by decide +kernel
theorem dX5_startAnew_52 : decode cX5_startAnew 52 = .ok (.invokestatic 42, 3) := by decide +kernel
theorem dX5_startAnew_55 : decode cX5_startAnew 55 = .ok (.aload_n 0, 1) := by decide +kernel
theorem dX5_startAnew_56 : decode cX5_startAnew 56 = .ok (.iconst 0, 1) := by decide +kernel
theorem dX5_startAnew_57 : decode cX5_startAnew 57 = .ok (.putfield 56, 3) := by decide +kernel
theorem dX5_startAnew_60 : decode cX5_startAnew 60 = .ok (.aload_n 0, 1) := by decide +kernel
theorem dX5_startAnew_61 : decode cX5_startAnew 61 = .ok (.iconst 0, 1) := by decide +kernel
theorem dX5_startAnew_62 : decode cX5_startAnew 62 = .ok (.putfield 59, 3) := by decide +kernel
theorem dX5_startAnew_65 : decode cX5_startAnew 65 = .ok (.aload_n 0, 1) := by decide +kernel
theorem dX5_startAnew_66 : decode cX5_startAnew 66 = .ok (.iconst 0, 1) := by decide +kernel
theorem dX5_startAnew_67 : decode cX5_startAnew 67 = .ok (.putfield 62, 3) := by decide +kernel
theorem dX5_startAnew_70 : decode cX5_startAnew 70 = .ok (.aload_n 0, 1) := by decide +kernel
theorem dX5_startAnew_71 : decode cX5_startAnew 71 = .ok (.iconst 0, 1) := by decide +kernel
theorem dX5_startAnew_72 : decode cX5_startAnew 72 = .ok (.putfield 65, 3) := by decide +kernel
theorem dX5_startAnew_75 : decode cX5_startAnew 75 = .ok (.return_, 1) := by decide +kernel
set_option maxRecDepth 20000 in
theorem ggX5_copyFrom_X7_copyFrom : GoodIn wsX5_copyFrom wsX7_copyFrom := goodIn_r _ [17, 18, 19, 6, 7, 8, 20, 21, 22, 23, 24, 48, 49, 50, 51, 52, 53] (by decide +kernel) (by decide +kernel)
set_option maxRecDepth 20000 in
theorem gX5_copyFrom_X7_copyFrom_n68 : GoodIn wsX5_copyFrom (wsX7_copyFrom) := ggX5_copyFrom_X7_copyFrom
set_option maxRecDepth 20000 in
theorem ggX5_copyFrom_X0_copyFrom : GoodIn wsX5_copyFrom wsX0_copyFrom := goodIn_r _ [28, 29, 30, 6, 7, 8, 31, 32, 54, 55, 56] (by decide +kernel) (by decide +kernel)
set_option maxRecDepth 20000 in
theorem gX5_copyFrom_X0_copyFrom_n72 : GoodIn wsX5_copyFrom (wsX0_copyFrom) := ggX5_copyFrom_X0_copyFrom
set_option maxRecDepth 20000 in
theorem ggX5_copyFrom_X1_copyFrom : GoodIn wsX5_copyFrom wsX1_copyFrom := goodIn_r _ [36, 37, 38, 6, 7, 8, 57] (by decide +kernel) (by decide +kernel)
set_option maxRecDepth 20000 in
theorem gX5_copyFrom_X1_copyFrom_n75 : GoodIn wsX5_copyFrom (wsX1_copyFrom) := ggX5_copyFrom_X1_copyFrom
theorem dX5_copyFrom_0 : decode cX5_copyFrom 0 = .ok (.aload_n 0, 1) := by decide +kernel
theorem dX5_copyFrom_1 : decode cX5_copyFrom 1 = .ok (.getfield 12, 3) := by decide +kernel
theorem dX5_copyFrom_4 : decode cX5_copyFrom 4 = .ok (.aload_n 1, 1) := by decide +kernel
theorem dX5_copyFrom_5 : decode cX5_copyFrom 5 = .ok (.getfield 12, 3) := by decide +kernel
theorem dX5_copyFrom_8 : decode cX5_copyFrom 8 = .ok (.invokevirtual 68, 3) := by decide +kernel
theorem dX5_copyFrom_11 : decode cX5_copyFrom 11 = .ok (.aload_n 0, 1) := by decide +kernel
theorem dX5_copyFrom_12 : decode cX5_copyFrom 12 = .ok (.getfield 21, 3) := by decide +kernel
theorem dX5_copyFrom_15 : decode cX5_copyFrom 15 = .ok (.aload_n 1, 1) := by decide +kernel
theorem dX5_copyFrom_16 : decode cX5_copyFrom 16 = .ok (.getfield 21, 3) := by decide +kernel
theorem dX5_copyFrom_19 : decode cX5_copyFrom 19 = .ok (.invokevirtual 72, 3) := by decide +kernel
theorem dX5_copyFrom_22 : decode cX5_copyFrom 22 = .ok (.aload_n 0, 1) := by decide +kernel
theorem dX5_copyFrom_23 : decode cX5_copyFrom 23 = .ok (.getfield 28, 3) := by decide +kernel
theorem dX5_copyFrom_26 : decode cX5_copyFrom 26 = .ok (.aload_n 1, 1) := by decide +kernel
theorem dX5_copyFrom_27 : decode cX5_copyFrom 27 = .ok (.getfield 28, 3) := by decide +kernel
theorem dX5_copyFrom_30 : decode cX5_copyFrom 30 = .ok (.invokevirtual 75, 3) := by decide +kernel
theorem dX5_copyFrom_33 : decode cX5_copyFrom 33 = .ok (.aload_n 1, 1) := by decide +kernel
theorem dX5_copyFrom_34 : decode cX5_copyFrom 34 = .ok (.getfield 32, 3) := by decide +kernel
theorem dX5_copyFrom_37 : decode cX5_copyFrom 37 = .ok (.iconst 0, 1) := by decide +kernel
theorem dX5_copyFrom_38 : decode cX5_copyFrom 38 = .ok (.aload_n 0, 1) := by decide +kernel
theorem dX5_copyFrom_39 : decode cX5_copyFrom 39 = .ok (.getfield 32, 3) := by decide +kernel
theorem dX5_copyFrom_42 : decode cX5_copyFrom 42 = .ok (.iconst 0, 1) := by decide +kernel
theorem dX5_copyFrom_43 : decode cX5_copyFrom 43 = .ok (.iconst 5, 1) := by decide +kernel
theorem dX5_copyFrom_44 : decode cX5_copyFrom 44 = .ok (.invokestatic 42, 3) := by decide +kernel
theorem dX5_copyFrom_47 : decode cX5_copyFrom 47 = .ok (.aload_n 1, 1) := by decide +kernel
theorem dX5_copyFrom_48 : decode cX5_copyFrom 48 = .ok (.getfield 36, 3) := by decide +kernel
theorem dX5_copyFrom_51 : decode cX5_copyFrom 51 = .ok (.iconst 0, 1) := by decide +kernel
theorem dX5_copyFrom_52 : decode cX5_copyFrom 52 = .ok (.aload_n 0, 1) := by decide +kernel
theorem dX5_copyFrom_53 : decode cX5_copyFrom 53 = .ok (.getfield 36, 3) := by decide +kernel
theorem dX5_copyFrom_56 : decode cX5_copyFrom 56 = .ok (.iconst 0, 1) := by decide +kernel
theorem dX5_copyFrom_57 : decode cX5_copyFrom 57 = .ok (.iconst 3, 1) := by decide +kernel
theorem dX5_copyFrom_58 : decode cX5_copyFrom 58 = .ok (.invokestatic 42, 3) := by decide +kernel
theorem dX5_copyFrom_61 : decode cX5_copyFrom 61 = .ok (.aload_n 0, 1) := by decide +kernel
theorem dX5_copyFrom_62 : decode cX5_copyFrom 62 = .ok (.aload_n 1, 1) := by decide +kernel
theorem dX5_copyFrom_63 : decode cX5_copyFrom 63 = .ok (.getfield 56, 3) := by decide +kernel
theorem dX5_copyFrom_66 : decode cX5_copyFrom 66 = .ok (.putfield 56, 3) := by decide +kernel
theorem dX5_copyFrom_69 : decode cX5_copyFrom 69 = .ok (.aload_n 0, 1) := by decide +kernel
theorem dX5_copyFrom_70 : decode cX5_copyFrom 70 = .ok (.aload_n 1, 1) := by decide +kernel
theorem dX5_copyFrom_71 : decode cX5_copyFrom 71 = .ok (.getfield 59, 3) := by decide +kernel
theorem dX5_copyFrom_74 : decode cX5_copyFrom 74 = .ok (.putfield 59, 3) := by decide +kernel
theorem dX5_copyFrom_77 : decode cX5_copyFrom 77 = .ok (.aload_n 0, 1) := by decide +kernel
theorem dX5_copyFrom_78 : decode cX5_copyFrom 78 = .ok (.aload_n 1, 1) := by decide +kernel
theorem dX5_copyFrom_79 : decode cX5_copyFrom 79 = .ok (.getfield 62, 3) := by decide +kernel
theorem dX5_copyFrom_82 : decode cX5_copyFrom 82 = .ok (.putfield 62, 3) := by decide +kernel
theorem dX5_copyFrom_85 : decode cX5_copyFrom 85 = .ok (.aload_n 0, 1) := by decide +kernel
theorem dX5_copyFrom_86 : decode cX5_copyFrom 86 = .ok (.aload_n 1, 1) := by decide +kernel
theorem dX5_copyFrom_87 : decode cX5_copyFrom 87 = .ok (.getfield 65, 3) := by decide +kernel
theorem dX5_copyFrom_90 : decode cX5_copyFrom 90 = .ok (.putfield 65, 3) := by decide +kernel
theorem dX5_copyFrom_93 : decode cX5_copyFrom 93 = .ok (.return_, 1) := by decide +kernel
set_option maxRecDepth 20000 in
theorem ggX5_tryCome_X8_isKind : GoodIn wsX5_tryCome wsX8_isKind := goodIn_r _ [4] (by decide +kernel) (by decide +kernel)
set_option maxRecDepth 20000 in
theorem gX5_tryCome_X8_isKind_n78 : GoodIn wsX5_tryCome (wsX8_isKind) := ggX5_tryCome_X8_isKind
set_option maxRecDepth 20000 in
theorem ggX5_tryCome_X8_isHolder : GoodIn wsX5_tryCome wsX8_isHolder := goodIn_r _ [6] (by decide +kernel) (by decide +kernel)
set_option maxRecDepth 20000 in
theorem gX5_tryCome_X8_isHolder_n82 : GoodIn wsX5_tryCome (wsX8_isHolder) := ggX5_tryCome_X8_isHolder
set_option maxRecDepth 20000 in
theorem ggX5_tryCome_X7_add : GoodIn wsX5_tryCome wsX7_add := goodIn_r _ [10, 11, 12, 13, 14, 15, 16, 8, 17, 18, 19, 20, 21, 22, 23, 24, 34, 35, 36, 37, 38, 39] (by decide +kernel) (by decide +kernel)
set_option maxRecDepth 20000 in
theorem gX5_tryCome_X7_add_n85 : GoodIn wsX5_tryCome (wsX7_add) := ggX5_tryCome_X7_add
theorem dX5_tryCome_0 : decode cX5_tryCome 0 = .ok (.iload_n 1, 1) := by decide +kernel
theorem dX5_tryCome_1 : decode cX5_tryCome 1 = .ok (.invokestatic 78, 3) := by decide +kernel
theorem dX5_tryCome_4 : decode cX5_tryCome 4 = .ok (.ifCond .eq 10, 3) := by decide +kernel
theorem dX5_tryCome_7 : decode cX5_tryCome 7 = .ok (.iload_n 2, 1) := by decide +kernel
theorem dX5_tryCome_8 : decode cX5_tryCome 8 = .ok (.invokestatic 82, 3) := by decide +kernel
theorem dX5_tryCome_11 : decode cX5_tryCome 11 = .ok (.ifCond .ne 5, 3) := by decide +kernel
theorem dX5_tryCome_14 : decode cX5_tryCome 14 = .ok (.iconst (-1), 1) := by decide +kernel
theorem dX5_tryCome_15 : decode cX5_tryCome 15 = .ok (.ireturn, 1) := by decide +kernel
theorem dX5_tryCome_16 : decode cX5_tryCome 16 = .ok (.iload_n 3, 1) := by decide +kernel
theorem dX5_tryCome_17 : decode cX5_tryCome 17 = .ok (.ifCond .lt 9, 3) := by decide +kernel
theorem dX5_tryCome_20 : decode cX5_tryCome 20 = .ok (.iload_n 3, 1) := by decide +kernel
theorem dX5_tryCome_21 : decode cX5_tryCome 21 = .ok (.bipush 7, 2) := by decide +kernel
theorem dX5_tryCome_23 : decode cX5_tryCome 23 = .ok (.if_icmp .le 6, 3) := by decide +kernel
theorem dX5_tryCome_26 : decode cX5_tryCome 26 = .ok (.bipush (-2), 2) := by decide +kernel
theorem dX5_tryCome_28 : decode cX5_tryCome 28 = .ok (.ireturn, 1) := by decide +kernel
theorem dX5_tryCome_29 : decode cX5_tryCome 29 = .ok (.aload_n 0, 1) := by decide +kernel
theorem dX5_tryCome_30 : decode cX5_tryCome 30 = .ok (.getfield 12, 3) := by decide +kernel
theorem dX5_tryCome_33 : decode cX5_tryCome 33 = .ok (.getfield 48, 3) := by decide +kernel
theorem dX5_tryCome_36 : decode cX5_tryCome 36 = .ok (.bipush 16, 2) := by decide +kernel
theorem dX5_tryCome_38 : decode cX5_tryCome 38 = .ok (.if_icmp .lt 6, 3) := by decide +kernel
theorem dX5_tryCome_41 : decode cX5_tryCome 41 = .ok (.bipush (-3), 2) := by decide +kernel
theorem dX5_tryCome_43 : decode cX5_tryCome 43 = .ok (.ireturn, 1) := by decide +kernel
theorem dX5_tryCome_44 : decode cX5_tryCome 44 = .ok (.aload_n 0, 1) := by decide +kernel
theorem dX5_tryCome_45 : decode cX5_tryCome 45 = .ok (.getfield 12, 3) := by decide +kernel
theorem dX5_tryCome_48 : decode cX5_tryCome 48 = .ok (.iload_n 1, 1) := by decide +kernel
theorem dX5_tryCome_49 : decode cX5_tryCome 49 = .ok (.iload_n 2, 1) := by decide +kernel
theorem dX5_tryCome_50 : decode cX5_tryCome 50 = .ok (.iload_n 3, 1) := by decide +kernel
theorem dX5_tryCome_51 : decode cX5_tryCome 51 = .ok (.invokevirtual 85, 3) := by decide +kernel
theorem dX5_tryCome_54 : decode cX5_tryCome 54 = .ok (.ireturn, 1) := by decide +kernel
set_option maxRecDepth 20000 in
theorem ggX5_tryLend_X7_has : GoodIn wsX5_tryLend wsX7_has := goodIn_r _ [6, 7, 28, 29, 30, 31, 32, 33] (by decide +kernel) (by decide +kernel)
set_option maxRecDepth 20000 in
theorem gX5_tryLend_X7_has_n89 : GoodIn wsX5_tryLend (wsX7_has) := ggX5_tryLend_X7_has
set_option maxRecDepth 20000 in
theorem ggX5_tryLend_X8_isHolder : GoodIn wsX5_tryLend wsX8_isHolder := goodIn_r _ [10] (by decide +kernel) (by decide +kernel)
set_option maxRecDepth 20000 in
theorem gX5_tryLend_X8_isHolder_n82 : GoodIn wsX5_tryLend (wsX8_isHolder) := ggX5_tryLend_X8_isHolder
set_option maxRecDepth 20000 in
theorem ggX5_tryLend_X8_isTerm : GoodIn wsX5_tryLend wsX8_isTerm := goodIn_r _ [12] (by decide +kernel) (by decide +kernel)
set_option maxRecDepth 20000 in
theorem gX5_tryLend_X8_isTerm_n92 : GoodIn wsX5_tryLend (wsX8_isTerm) := ggX5_tryLend_X8_isTerm
set_option maxRecDepth 20000 in
theorem ggX5_tryLend_X7_isFree : GoodIn wsX5_tryLend wsX7_isFree := goodIn_r _ [15, 16, 17, 18, 3, 5, 4, 6, 7, 28, 29, 30, 31, 32, 33] (by decide +kernel) (by decide +kernel)
set_option maxRecDepth 20000 in
theorem gX5_tryLend_X7_isFree_n95 : GoodIn wsX5_tryLend (wsX7_isFree) := ggX5_tryLend_X7_isFree
theorem dX5_tryLend_0 : decode cX5_tryLend 0 = .ok (.aload_n 0, 1) := by decide +kernel
theorem dX5_tryLend_1 : decode cX5_tryLend 1 = .ok (.getfield 12, 3) := by decide +kernel
theorem dX5_tryLend_4 : decode cX5_tryLend 4 = .ok (.iload_n 1, 1) := by decide +kernel
theorem dX5_tryLend_5 : decode cX5_tryLend 5 = .ok (.invokevirtual 89, 3) := by decide +kernel
theorem dX5_tryLend_8 : decode cX5_tryLend 8 = .ok (.ifCond .eq 10, 3) := by decide +kernel
theorem dX5_tryLend_11 : decode cX5_tryLend 11 = .ok (.iload_n 2, 1) := by decide +kernel
theorem dX5_tryLend_12 : decode cX5_tryLend 12 = .ok (.invokestatic 82, 3) := by decide +kernel
theorem dX5_tryLend_15 : decode cX5_tryLend 15 = .ok (.ifCond .ne 5, 3) := by decide +kernel
theorem dX5_tryLend_18 : decode cX5_tryLend 18 = .ok (.iconst (-1), 1) := by decide +kernel
theorem dX5_tryLend_19 : decode cX5_tryLend 19 = .ok (.ireturn, 1) := by decide +kernel
theorem dX5_tryLend_20 : decode cX5_tryLend 20 = .ok (.iload_n 3, 1) := by decide +kernel
theorem dX5_tryLend_21 : decode cX5_tryLend 21 = .ok (.invokestatic 92, 3) := by decide +kernel
theorem dX5_tryLend_24 : decode cX5_tryLend 24 = .ok (.ifCond .ne 6, 3) := by decide +kernel
theorem dX5_tryLend_27 : decode cX5_tryLend 27 = .ok (.bipush (-2), 2) := by decide +kernel
theorem dX5_tryLend_29 : decode cX5_tryLend 29 = .ok (.ireturn, 1) := by decide +kernel
theorem dX5_tryLend_30 : decode cX5_tryLend 30 = .ok (.aload_n 0, 1) := by decide +kernel
theorem dX5_tryLend_31 : decode cX5_tryLend 31 = .ok (.getfield 12, 3) := by decide +kernel
theorem dX5_tryLend_34 : decode cX5_tryLend 34 = .ok (.iload_n 1, 1) := by decide +kernel
theorem dX5_tryLend_35 : decode cX5_tryLend 35 = .ok (.invokevirtual 95, 3) := by decide +kernel
theorem dX5_tryLend_38 : decode cX5_tryLend 38 = .ok (.ifCond .eq 16, 3) := by decide +kernel
theorem dX5_tryLend_41 : decode cX5_tryLend 41 = .ok (.aload_n 0, 1) := by decide +kernel
theorem dX5_tryLend_42 : decode cX5_tryLend 42 = .ok (.getfield 12, 3) := by decide +kernel
theorem dX5_tryLend_45 : decode cX5_tryLend 45 = .ok (.getfield 98, 3) := by decide +kernel
theorem dX5_tryLend_48 : decode cX5_tryLend 48 = .ok (.iload_n 1, 1) := by decide +kernel
theorem dX5_tryLend_49 : decode cX5_tryLend 49 = .ok (.iaload, 1) := by decide +kernel
theorem dX5_tryLend_50 : decode cX5_tryLend 50 = .ok (.iload_n 2, 1) := by decide +kernel
theorem dX5_tryLend_51 : decode cX5_tryLend 51 = .ok (.if_icmp .ne 6, 3) := by decide +kernel
theorem dX5_tryLend_54 : decode cX5_tryLend 54 = .ok (.bipush (-3), 2) := by decide +kernel
theorem dX5_tryLend_56 : decode cX5_tryLend 56 = .ok (.ireturn, 1) := by decide +kernel
theorem dX5_tryLend_57 : decode cX5_tryLend 57 = .ok (.aload_n 0, 1) := by decide +kernel
theorem dX5_tryLend_58 : decode cX5_tryLend 58 = .ok (.getfield 12, 3) := by decide +kernel
theorem dX5_tryLend_61 : decode cX5_tryLend 61 = .ok (.getfield 101, 3) := by decide +kernel
theorem dX5_tryLend_64 : decode cX5_tryLend 64 = .ok (.iload_n 1, 1) := by decide +kernel
theorem dX5_tryLend_65 : decode cX5_tryLend 65 = .ok (.iload_n 2, 1) := by decide +kernel
theorem dX5_tryLend_66 : decode cX5_tryLend 66 = .ok (.iastore, 1) := by decide +kernel
theorem dX5_tryLend_67 : decode cX5_tryLend 67 = .ok (.aload_n 0, 1) := by decide +kernel
theorem dX5_tryLend_68 : decode cX5_tryLend 68 = .ok (.getfield 12, 3) := by decide +kernel
theorem dX5_tryLend_71 : decode cX5_tryLend 71 = .ok (.getfield 104, 3) := by decide +kernel
theorem dX5_tryLend_74 : decode cX5_tryLend 74 = .ok (.iload_n 1, 1) := by decide +kernel
theorem dX5_tryLend_75 : decode cX5_tryLend 75 = .ok (.aload_n 0, 1) := by decide +kernel
theorem dX5_tryLend_76 : decode cX5_tryLend 76 = .ok (.getfield 56, 3) := by decide +kernel
theorem dX5_tryLend_79 : decode cX5_tryLend 79 = .ok (.iload_n 3, 1) := by decide +kernel
theorem dX5_tryLend_80 : decode cX5_tryLend 80 = .ok (.iadd, 1) := by decide +kernel
theorem dX5_tryLend_81 : decode cX5_tryLend 81 = .ok (.iastore, 1) := by decide +kernel
theorem dX5_tryLend_82 : decode cX5_tryLend 82 = .ok (.aload_n 0, 1) := by decide +kernel
theorem dX5_tryLend_83 : decode cX5_tryLend 83 = .ok (.getfield 12, 3) := by decide +kernel
theorem dX5_tryLend_86 : decode cX5_tryLend 86 = .ok (.getfield 104, 3) := by decide +kernel
theorem dX5_tryLend_89 : decode cX5_tryLend 89 = .ok (.iload_n 1, 1) := by decide +kernel
theorem dX5_tryLend_90 : decode cX5_tryLend 90 = .ok (.iaload, 1) := by decide +kernel
theorem dX5_tryLend_91 : decode cX5_tryLend 91 = .ok (.ireturn, 1) := by decide +kernel
set_option maxRecDepth 20000 in
theorem ggX5_tryBring_X7_has : GoodIn wsX5_tryBring wsX7_has := goodIn_r _ [5, 6, 50, 51, 52, 53, 54, 55] (by decide +kernel) (by decide +kernel)
set_option maxRecDepth 20000 in
theorem gX5_tryBring_X7_has_n89 : GoodIn wsX5_tryBring (wsX7_has) := ggX5_tryBring_X7_has
set_option maxRecDepth 20000 in
theorem ggX5_tryBring_X7_isFree : GoodIn wsX5_tryBring wsX7_isFree := goodIn_r _ [9, 10, 11, 12, 2, 4, 3, 5, 6, 50, 51, 52, 53, 54, 55] (by decide +kernel) (by decide +kernel)
set_option maxRecDepth 20000 in
theorem gX5_tryBring_X7_isFree_n95 : GoodIn wsX5_tryBring (wsX7_isFree) := ggX5_tryBring_X7_isFree
set_option maxRecDepth 20000 in
theorem ggX5_tryBring_X5_feesFor : GoodIn wsX5_tryBring wsX5_feesFor := goodIn_r _ [17, 1, 18, 2, 3, 4, 5, 6, 7, 8, 9, 10, 11, 12, 19, 20, 21, 16, 22, 23, 24, 25, 26, 27, 41, 42, 43, 44, 45, 46, 47, 48, 49, 50, 51, 52, 53, 54, 55] (by decide +kernel) (by decide +kernel)
set_option maxRecDepth 20000 in
theorem gX5_tryBring_X5_feesFor : GoodIn wsX5_tryBring (wsV RX5 107 RX5 yX5_feesFor wsX5_feesFor) := goodIn_app (goodIn_of _ (by decide +kernel)) ggX5_tryBring_X5_feesFor
set_option maxRecDepth 20000 in
theorem ggX5_tryBring_X5_pay : GoodIn wsX5_tryBring wsX5_pay := goodIn_r _ [31, 32, 33, 34, 35, 36, 41, 42, 43, 44, 45, 46, 47, 48, 49] (by decide +kernel) (by decide +kernel)
set_option maxRecDepth 20000 in
theorem gX5_tryBring_X5_pay : GoodIn wsX5_tryBring (wsV RX5 111 RX5 yX5_pay wsX5_pay) := goodIn_app (goodIn_of _ (by decide +kernel)) ggX5_tryBring_X5_pay
set_option maxRecDepth 20000 in
theorem ggX5_tryBring_X7_giveTo : GoodIn wsX5_tryBring wsX7_giveTo := goodIn_r _ [39, 11, 10, 40, 12, 2, 4, 3, 5, 6, 50, 51, 52, 53, 54, 55] (by decide +kernel) (by decide +kernel)
set_option maxRecDepth 20000 in
theorem gX5_tryBring_X7_giveTo_n115 : GoodIn wsX5_tryBring (wsX7_giveTo) := ggX5_tryBring_X7_giveTo
theorem dX5_tryBring_0 : decode cX5_tryBring 0 = .ok (.aload_n 0, 1) := by decide +kernel
theorem dX5_tryBring_1 : decode cX5_tryBring 1 = .ok (.getfield 12, 3) := by decide +kernel
theorem dX5_tryBring_4 : decode cX5_tryBring 4 = .ok (.iload_n 1, 1) := by decide +kernel
theorem dX5_tryBring_5 : decode cX5_tryBring 5 = .ok (.invokevirtual 89, 3) := by decide +kernel
theorem dX5_tryBring_8 : decode cX5_tryBring 8 = .ok (.ifCond .ne 5, 3) := by decide +kernel
theorem dX5_tryBring_11 : decode cX5_tryBring 11 = .ok (.iconst (-1), 1) := by decide +kernel
theorem dX5_tryBring_12 : decode cX5_tryBring 12 = .ok (.ireturn, 1) := by decide +kernel
theorem dX5_tryBring_13 : decode cX5_tryBring 13 = .ok (.aload_n 0, 1) := by decide +kernel
theorem dX5_tryBring_14 : decode cX5_tryBring 14 = .ok (.getfield 12, 3) := by decide +kernel
theorem dX5_tryBring_17 : decode cX5_tryBring 17 = .ok (.iload_n 1, 1) := by decide +kernel
theorem dX5_tryBring_18 : decode cX5_tryBring 18 = .ok (.invokevirtual 95, 3) := by decide +kernel
theorem dX5_tryBring_21 : decode cX5_tryBring 21 = .ok (.ifCond .eq 6, 3) := by decide +kernel
theorem dX5_tryBring_24 : decode cX5_tryBring 24 = .ok (.bipush (-3), 2) := by decide +kernel
theorem dX5_tryBring_26 : decode cX5_tryBring 26 = .ok (.ireturn, 1) := by decide +kernel
theorem dX5_tryBring_27 : decode cX5_tryBring 27 = .ok (.aload_n 0, 1) := by decide +kernel
theorem dX5_tryBring_28 : decode cX5_tryBring 28 = .ok (.iload_n 1, 1) := by decide +kernel
theorem dX5_tryBring_29 : decode cX5_tryBring 29 = .ok (.iconst 0, 1) := by decide +kernel
theorem dX5_tryBring_30 : decode cX5_tryBring 30 = .ok (.invokevirtual 107, 3) := by decide +kernel
theorem dX5_tryBring_33 : decode cX5_tryBring 33 = .ok (.istore_n 2, 1) := by decide +kernel
theorem dX5_tryBring_34 : decode cX5_tryBring 34 = .ok (.aload_n 0, 1) := by decide +kernel
theorem dX5_tryBring_35 : decode cX5_tryBring 35 = .ok (.aload_n 0, 1) := by decide +kernel
theorem dX5_tryBring_36 : decode cX5_tryBring 36 = .ok (.getfield 12, 3) := by decide +kernel
theorem dX5_tryBring_39 : decode cX5_tryBring 39 = .ok (.getfield 101, 3) := by decide +kernel
theorem dX5_tryBring_42 : decode cX5_tryBring 42 = .ok (.iload_n 1, 1) := by decide +kernel
theorem dX5_tryBring_43 : decode cX5_tryBring 43 = .ok (.iaload, 1) := by decide +kernel
theorem dX5_tryBring_44 : decode cX5_tryBring 44 = .ok (.aload_n 0, 1) := by decide +kernel
theorem dX5_tryBring_45 : decode cX5_tryBring 45 = .ok (.getfield 12, 3) := by decide +kernel
theorem dX5_tryBring_48 : decode cX5_tryBring 48 = .ok (.getfield 98, 3) := by decide +kernel
theorem dX5_tryBring_51 : decode cX5_tryBring 51 = .ok (.iload_n 1, 1) := by decide +kernel
theorem dX5_tryBring_52 : decode cX5_tryBring 52 = .ok (.iaload, 1) := by decide +kernel
theorem dX5_tryBring_53 : decode cX5_tryBring 53 = .ok (.iload_n 2, 1) := by decide +kernel
theorem dX5_tryBring_54 : decode cX5_tryBring 54 = .ok (.invokevirtual 111, 3) := by decide +kernel
theorem dX5_tryBring_57 : decode cX5_tryBring 57 = .ok (.aload_n 0, 1) := by decide +kernel
theorem dX5_tryBring_58 : decode cX5_tryBring 58 = .ok (.getfield 12, 3) := by decide +kernel
theorem dX5_tryBring_61 : decode cX5_tryBring 61 = .ok (.iload_n 1, 1) := by decide +kernel
theorem dX5_tryBring_62 : decode cX5_tryBring 62 = .ok (.aload_n 0, 1) := by decide +kernel
theorem dX5_tryBring_63 : decode cX5_tryBring 63 = .ok (.getfield 12, 3) := by decide +kernel
theorem dX5_tryBring_66 : decode cX5_tryBring 66 = .ok (.getfield 98, 3) := by decide +kernel
theorem dX5_tryBring_69 : decode cX5_tryBring 69 = .ok (.iload_n 1, 1) := by decide +kernel
theorem dX5_tryBring_70 : decode cX5_tryBring 70 = .ok (.iaload, 1) := by decide +kernel
theorem dX5_tryBring_71 : decode cX5_tryBring 71 = .ok (.invokevirtual 115, 3) := by decide +kernel
theorem dX5_tryBring_74 : decode cX5_tryBring 74 = .ok (.iload_n 2, 1) := by decide +kernel
theorem dX5_tryBring_75 : decode cX5_tryBring 75 = .ok (.ireturn, 1) := by decide +kernel
set_option maxRecDepth 20000 in
theorem ggX5_tryExchange_X7_has : GoodIn wsX5_tryExchange wsX7_has := goodIn_r _ [6, 7, 64, 65, 66, 67, 68, 69] (by decide +kernel) (by decide +kernel)
set_option maxRecDepth 20000 in
theorem gX5_tryExchange_X7_has_n89 : GoodIn wsX5_tryExchange (wsX7_has) := ggX5_tryExchange_X7_has
set_option maxRecDepth 20000 in
theorem ggX5_tryExchange_X7_isFreeCore : GoodIn wsX5_tryExchange wsX7_isFreeCore := goodIn_r _ [10, 11, 12, 13, 14, 4, 15, 16, 17, 3, 5, 6, 7, 64, 65, 66, 67, 68, 69] (by decide +kernel) (by decide +kernel)
set_option maxRecDepth 20000 in
theorem gX5_tryExchange_X7_isFreeCore_n119 : GoodIn wsX5_tryExchange (wsX7_isFreeCore) := ggX5_tryExchange_X7_isFreeCore
set_option maxRecDepth 20000 in
theorem ggX5_tryExchange_X7_isGoodSpare : GoodIn wsX5_tryExchange wsX7_isGoodSpare := goodIn_r _ [20, 11, 12, 13, 14, 4, 15, 16, 17, 3, 5, 6, 7, 21, 22, 23, 24, 25, 64, 65, 66, 67, 68, 69] (by decide +kernel) (by decide +kernel)
set_option maxRecDepth 20000 in
theorem gX5_tryExchange_X7_isGoodSpare_n122 : GoodIn wsX5_tryExchange (wsX7_isGoodSpare) := ggX5_tryExchange_X7_isGoodSpare
set_option maxRecDepth 20000 in
theorem ggX5_tryExchange_X5_priceForCore : GoodIn wsX5_tryExchange wsX5_priceForCore := goodIn_r _ [30, 31, 1, 32, 4, 33, 34, 25, 17, 3, 5, 6, 7, 35, 36, 37, 38, 39, 40, 41, 55, 56, 57, 58, 59, 60, 61, 62, 63, 64, 65, 66, 67, 68, 69] (by decide +kernel) (by decide +kernel)
set_option maxRecDepth 20000 in
theorem gX5_tryExchange_X5_priceForCore : GoodIn wsX5_tryExchange (wsV RX5 128 RX5 yX5_priceForCore wsX5_priceForCore) := goodIn_app (goodIn_of _ (by decide +kernel)) ggX5_tryExchange_X5_priceForCore
set_option maxRecDepth 20000 in
theorem ggX5_tryExchange_X7_giveTo : GoodIn wsX5_tryExchange wsX7_giveTo := goodIn_r _ [44, 11, 16, 45, 17, 3, 5, 4, 6, 7, 64, 65, 66, 67, 68, 69] (by decide +kernel) (by decide +kernel)
set_option maxRecDepth 20000 in
theorem gX5_tryExchange_X7_giveTo_n115 : GoodIn wsX5_tryExchange (wsX7_giveTo) := ggX5_tryExchange_X7_giveTo
set_option maxRecDepth 20000 in
theorem ggX5_tryExchange_X5_pay : GoodIn wsX5_tryExchange wsX5_pay := goodIn_r _ [49, 50, 51, 52, 53, 54, 55, 56, 57, 58, 59, 60, 61, 62, 63] (by decide +kernel) (by decide +kernel)
set_option maxRecDepth 20000 in
theorem gX5_tryExchange_X5_pay : GoodIn wsX5_tryExchange (wsV RX5 111 RX5 yX5_pay wsX5_pay) := goodIn_app (goodIn_of _ (by decide +kernel)) ggX5_tryExchange_X5_pay
theorem dX5_tryExchange_0 : decode cX5_tryExchange 0 = .ok (.aload_n 0, 1) := by decide +kernel
theorem dX5_tryExchange_1 : decode cX5_tryExchange 1 = .ok (.getfield 12, 3) := by decide +kernel
theorem dX5_tryExchange_4 : decode cX5_tryExchange 4 = .ok (.iload_n 1, 1) := by decide +kernel
theorem dX5_tryExchange_5 : decode cX5_tryExchange 5 = .ok (.invokevirtual 89, 3) := by decide +kernel
theorem dX5_tryExchange_8 : decode cX5_tryExchange 8 = .ok (.ifCond .eq 14, 3) := by decide +kernel
theorem dX5_tryExchange_11 : decode cX5_tryExchange 11 = .ok (.aload_n 0, 1) := by decide +kernel
theorem dX5_tryExchange_12 : decode cX5_tryExchange 12 = .ok (.getfield 12, 3) := by decide +kernel
theorem dX5_tryExchange_15 : decode cX5_tryExchange 15 = .ok (.iload_n 2, 1) := by decide +kernel
theorem dX5_tryExchange_16 : decode cX5_tryExchange 16 = .ok (.invokevirtual 89, 3) := by decide +kernel
theorem dX5_tryExchange_19 : decode cX5_tryExchange 19 = .ok (.ifCond .ne 5, 3) := by decide +kernel
theorem dX5_tryExchange_22 : decode cX5_tryExchange 22 = .ok (.iconst (-1), 1) := by decide +kernel
theorem dX5_tryExchange_23 : decode cX5_tryExchange 23 = .ok (.ireturn, 1) := by decide +kernel
theorem dX5_tryExchange_24 : decode cX5_tryExchange 24 = .ok (.aload_n 0, 1) := by decide +kernel
theorem dX5_tryExchange_25 : decode cX5_tryExchange 25 = .ok (.getfield 12, 3) := by decide +kernel
theorem dX5_tryExchange_28 : decode cX5_tryExchange 28 = .ok (.iload_n 1, 1) := by decide +kernel
theorem dX5_tryExchange_29 : decode cX5_tryExchange 29 = .ok (.invokevirtual 119, 3) := by decide +kernel
theorem dX5_tryExchange_32 : decode cX5_tryExchange 32 = .ok (.ifCond .eq 35, 3) := by decide +kernel
theorem dX5_tryExchange_35 : decode cX5_tryExchange 35 = .ok (.aload_n 0, 1) := by decide +kernel
theorem dX5_tryExchange_36 : decode cX5_tryExchange 36 = .ok (.getfield 12, 3) := by decide +kernel
theorem dX5_tryExchange_39 : decode cX5_tryExchange 39 = .ok (.iload_n 2, 1) := by decide +kernel
theorem dX5_tryExchange_40 : decode cX5_tryExchange 40 = .ok (.invokevirtual 122, 3) := by decide +kernel
theorem dX5_tryExchange_43 : decode cX5_tryExchange 43 = .ok (.ifCond .eq 24, 3) := by decide +kernel
theorem dX5_tryExchange_46 : decode cX5_tryExchange 46 = .ok (.aload_n 0, 1) := by decide +kernel
theorem dX5_tryExchange_47 : decode cX5_tryExchange 47 = .ok (.getfield 12, 3) := by decide +kernel
theorem dX5_tryExchange_50 : decode cX5_tryExchange 50 = .ok (.getfield 125, 3) := by decide +kernel
theorem dX5_tryExchange_53 : decode cX5_tryExchange 53 = .ok (.iload_n 1, 1) := by decide +kernel
theorem dX5_tryExchange_54 : decode cX5_tryExchange 54 = .ok (.iaload, 1) := by decide +kernel
theorem dX5_tryExchange_55 : decode cX5_tryExchange 55 = .ok (.aload_n 0, 1) := by decide +kernel
theorem dX5_tryExchange_56 : decode cX5_tryExchange 56 = .ok (.getfield 12, 3) := by decide +kernel
theorem dX5_tryExchange_59 : decode cX5_tryExchange 59 = .ok (.getfield 125, 3) := by decide +kernel
theorem dX5_tryExchange_62 : decode cX5_tryExchange 62 = .ok (.iload_n 2, 1) := by decide +kernel
theorem dX5_tryExchange_63 : decode cX5_tryExchange 63 = .ok (.iaload, 1) := by decide +kernel
theorem dX5_tryExchange_64 : decode cX5_tryExchange 64 = .ok (.if_icmp .eq 6, 3) := by decide +kernel
theorem dX5_tryExchange_67 : decode cX5_tryExchange 67 = .ok (.bipush (-3), 2) := by decide +kernel
theorem dX5_tryExchange_69 : decode cX5_tryExchange 69 = .ok (.ireturn, 1) := by decide +kernel
theorem dX5_tryExchange_70 : decode cX5_tryExchange 70 = .ok (.aload_n 0, 1) := by decide +kernel
theorem dX5_tryExchange_71 : decode cX5_tryExchange 71 = .ok (.getfield 12, 3) := by decide +kernel
theorem dX5_tryExchange_74 : decode cX5_tryExchange 74 = .ok (.getfield 98, 3) := by decide +kernel
theorem dX5_tryExchange_77 : decode cX5_tryExchange 77 = .ok (.iload_n 1, 1) := by decide +kernel
theorem dX5_tryExchange_78 : decode cX5_tryExchange 78 = .ok (.iaload, 1) := by decide +kernel
theorem dX5_tryExchange_79 : decode cX5_tryExchange 79 = .ok (.istore_n 3, 1) := by decide +kernel
theorem dX5_tryExchange_80 : decode cX5_tryExchange 80 = .ok (.aload_n 0, 1) := by decide +kernel
theorem dX5_tryExchange_81 : decode cX5_tryExchange 81 = .ok (.iload_n 1, 1) := by decide +kernel
theorem dX5_tryExchange_82 : decode cX5_tryExchange 82 = .ok (.invokevirtual 128, 3) := by decide +kernel
theorem dX5_tryExchange_85 : decode cX5_tryExchange 85 = .ok (.istore 4, 2) := by decide +kernel
theorem dX5_tryExchange_87 : decode cX5_tryExchange 87 = .ok (.aload_n 0, 1) := by decide +kernel
theorem dX5_tryExchange_88 : decode cX5_tryExchange 88 = .ok (.getfield 12, 3) := by decide +kernel
theorem dX5_tryExchange_91 : decode cX5_tryExchange 91 = .ok (.iload_n 1, 1) := by decide +kernel
theorem dX5_tryExchange_92 : decode cX5_tryExchange 92 = .ok (.iconst 4, 1) := by decide +kernel
theorem dX5_tryExchange_93 : decode cX5_tryExchange 93 = .ok (.invokevirtual 115, 3) := by decide +kernel
theorem dX5_tryExchange_96 : decode cX5_tryExchange 96 = .ok (.aload_n 0, 1) := by decide +kernel
theorem dX5_tryExchange_97 : decode cX5_tryExchange 97 = .ok (.getfield 12, 3) := by decide +kernel
theorem dX5_tryExchange_100 : decode cX5_tryExchange 100 = .ok (.iload_n 2, 1) := by decide +kernel
theorem dX5_tryExchange_101 : decode cX5_tryExchange 101 = .ok (.iload_n 3, 1) := by decide +kernel
theorem dX5_tryExchange_102 : decode cX5_tryExchange 102 = .ok (.invokevirtual 115, 3) := by decide +kernel
theorem dX5_tryExchange_105 : decode cX5_tryExchange 105 = .ok (.aload_n 0, 1) := by decide +kernel
theorem dX5_tryExchange_106 : decode cX5_tryExchange 106 = .ok (.iload_n 3, 1) := by decide +kernel
theorem dX5_tryExchange_107 : decode cX5_tryExchange 107 = .ok (.iconst 4, 1) := by decide +kernel
theorem dX5_tryExchange_108 : decode cX5_tryExchange 108 = .ok (.iload 4, 2) := by decide +kernel
theorem dX5_tryExchange_110 : decode cX5_tryExchange 110 = .ok (.invokevirtual 111, 3) := by decide +kernel
theorem dX5_tryExchange_113 : decode cX5_tryExchange 113 = .ok (.aload_n 0, 1) := by decide +kernel
theorem dX5_tryExchange_114 : decode cX5_tryExchange 114 = .ok (.dup, 1) := by decide +kernel
theorem dX5_tryExchange_115 : decode cX5_tryExchange 115 = .ok (.getfield 62, 3) := by decide +kernel
theorem dX5_tryExchange_118 : decode cX5_tryExchange 118 = .ok (.iconst 1, 1) := by decide +kernel
theorem dX5_tryExchange_119 : decode cX5_tryExchange 119 = .ok (.iadd, 1) := by decide +kernel
theorem dX5_tryExchange_120 : decode cX5_tryExchange 120 = .ok (.putfield 62, 3) := by decide +kernel
theorem dX5_tryExchange_123 : decode cX5_tryExchange 123 = .ok (.iload 4, 2) := by decide +kernel
theorem dX5_tryExchange_125 : decode cX5_tryExchange 125 = .ok (.ireturn, 1) := by decide +kernel
set_option maxRecDepth 20000 in
theorem ggX5_tryAdvance_X8_isHolder : GoodIn wsX5_tryAdvance wsX8_isHolder := goodIn_r _ [7] (by decide +kernel) (by decide +kernel)
set_option maxRecDepth 20000 in
theorem gX5_tryAdvance_X8_isHolder_n82 : GoodIn wsX5_tryAdvance (wsX8_isHolder) := ggX5_tryAdvance_X8_isHolder
set_option maxRecDepth 20000 in
theorem ggX5_tryAdvance_X7_has : GoodIn wsX5_tryAdvance wsX7_has := goodIn_r _ [11, 12, 54, 55, 56, 57, 58, 59] (by decide +kernel) (by decide +kernel)
set_option maxRecDepth 20000 in
theorem gX5_tryAdvance_X7_has_n89 : GoodIn wsX5_tryAdvance (wsX7_has) := ggX5_tryAdvance_X7_has
set_option maxRecDepth 20000 in
theorem ggX5_tryAdvance_X8_isTerm : GoodIn wsX5_tryAdvance wsX8_isTerm := goodIn_r _ [14] (by decide +kernel) (by decide +kernel)
set_option maxRecDepth 20000 in
theorem gX5_tryAdvance_X8_isTerm_n92 : GoodIn wsX5_tryAdvance (wsX8_isTerm) := ggX5_tryAdvance_X8_isTerm
set_option maxRecDepth 20000 in
theorem ggX5_tryAdvance_X0_hasRoom : GoodIn wsX5_tryAdvance wsX0_hasRoom := goodIn_r _ [18, 19, 5, 6, 7, 60, 61, 62] (by decide +kernel) (by decide +kernel)
set_option maxRecDepth 20000 in
theorem gX5_tryAdvance_X0_hasRoom_n132 : GoodIn wsX5_tryAdvance (wsX0_hasRoom) := ggX5_tryAdvance_X0_hasRoom
set_option maxRecDepth 20000 in
theorem ggX5_tryAdvance_X7_isGoodSpare : GoodIn wsX5_tryAdvance wsX7_isGoodSpare := goodIn_r _ [22, 23, 24, 25, 26, 9, 27, 28, 29, 8, 10, 11, 12, 30, 31, 32, 33, 34, 54, 55, 56, 57, 58, 59] (by decide +kernel) (by decide +kernel)
set_option maxRecDepth 20000 in
theorem gX5_tryAdvance_X7_isGoodSpare_n122 : GoodIn wsX5_tryAdvance (wsX7_isGoodSpare) := ggX5_tryAdvance_X7_isGoodSpare
set_option maxRecDepth 20000 in
theorem ggX5_tryAdvance_X7_giveTo : GoodIn wsX5_tryAdvance wsX7_giveTo := goodIn_r _ [37, 23, 28, 38, 29, 8, 10, 9, 11, 12, 54, 55, 56, 57, 58, 59] (by decide +kernel) (by decide +kernel)
set_option maxRecDepth 20000 in
theorem gX5_tryAdvance_X7_giveTo_n115 : GoodIn wsX5_tryAdvance (wsX7_giveTo) := ggX5_tryAdvance_X7_giveTo
set_option maxRecDepth 20000 in
theorem ggX5_tryAdvance_X0_add : GoodIn wsX5_tryAdvance wsX0_add := goodIn_r _ [41, 19, 42, 43, 44, 15, 17, 16, 18, 5, 6, 7, 60, 61, 62] (by decide +kernel) (by decide +kernel)
set_option maxRecDepth 20000 in
theorem gX5_tryAdvance_X0_add_n135 : GoodIn wsX5_tryAdvance (wsX0_add) := ggX5_tryAdvance_X0_add
theorem dX5_tryAdvance_0 : decode cX5_tryAdvance 0 = .ok (.iload_n 1, 1) := by decide +kernel
theorem dX5_tryAdvance_1 : decode cX5_tryAdvance 1 = .ok (.invokestatic 82, 3) := by decide +kernel
theorem dX5_tryAdvance_4 : decode cX5_tryAdvance 4 = .ok (.ifCond .eq 14, 3) := by decide +kernel
theorem dX5_tryAdvance_7 : decode cX5_tryAdvance 7 = .ok (.aload_n 0, 1) := by decide +kernel
theorem dX5_tryAdvance_8 : decode cX5_tryAdvance 8 = .ok (.getfield 12, 3) := by decide +kernel
theorem dX5_tryAdvance_11 : decode cX5_tryAdvance 11 = .ok (.iload_n 2, 1) := by decide +kernel
theorem dX5_tryAdvance_12 : decode cX5_tryAdvance 12 = .ok (.invokevirtual 89, 3) := by decide +kernel
theorem dX5_tryAdvance_15 : decode cX5_tryAdvance 15 = .ok (.ifCond .ne 5, 3) := by decide +kernel
theorem dX5_tryAdvance_18 : decode cX5_tryAdvance 18 = .ok (.iconst (-1), 1) := by decide +kernel
theorem dX5_tryAdvance_19 : decode cX5_tryAdvance 19 = .ok (.ireturn, 1) := by decide +kernel
theorem dX5_tryAdvance_20 : decode cX5_tryAdvance 20 = .ok (.iload_n 3, 1) := by decide +kernel
theorem dX5_tryAdvance_21 : decode cX5_tryAdvance 21 = .ok (.invokestatic 92, 3) := by decide +kernel
theorem dX5_tryAdvance_24 : decode cX5_tryAdvance 24 = .ok (.ifCond .ne 6, 3) := by decide +kernel
theorem dX5_tryAdvance_27 : decode cX5_tryAdvance 27 = .ok (.bipush (-2), 2) := by decide +kernel
theorem dX5_tryAdvance_29 : decode cX5_tryAdvance 29 = .ok (.ireturn, 1) := by decide +kernel
theorem dX5_tryAdvance_30 : decode cX5_tryAdvance 30 = .ok (.iload_n 1, 1) := by decide +kernel
theorem dX5_tryAdvance_31 : decode cX5_tryAdvance 31 = .ok (.iconst 4, 1) := by decide +kernel
theorem dX5_tryAdvance_32 : decode cX5_tryAdvance 32 = .ok (.if_icmp .eq 25, 3) := by decide +kernel
theorem dX5_tryAdvance_35 : decode cX5_tryAdvance 35 = .ok (.aload_n 0, 1) := by decide +kernel
theorem dX5_tryAdvance_36 : decode cX5_tryAdvance 36 = .ok (.getfield 21, 3) := by decide +kernel
theorem dX5_tryAdvance_39 : decode cX5_tryAdvance 39 = .ok (.iload_n 1, 1) := by decide +kernel
theorem dX5_tryAdvance_40 : decode cX5_tryAdvance 40 = .ok (.invokevirtual 132, 3) := by decide +kernel
theorem dX5_tryAdvance_43 : decode cX5_tryAdvance 43 = .ok (.ifCond .eq 14, 3) := by decide +kernel
theorem dX5_tryAdvance_46 : decode cX5_tryAdvance 46 = .ok (.aload_n 0, 1) := by decide +kernel
theorem dX5_tryAdvance_47 : decode cX5_tryAdvance 47 = .ok (.getfield 12, 3) := by decide +kernel
theorem dX5_tryAdvance_50 : decode cX5_tryAdvance 50 = .ok (.iload_n 2, 1) := by decide +kernel
theorem dX5_tryAdvance_51 : decode cX5_tryAdvance 51 = .ok (.invokevirtual 122, 3) := by decide +kernel
theorem dX5_tryAdvance_54 : decode cX5_tryAdvance 54 = .ok (.ifCond .ne 6, 3) := by decide +kernel
theorem dX5_tryAdvance_57 : decode cX5_tryAdvance 57 = .ok (.bipush (-3), 2) := by decide +kernel
theorem dX5_tryAdvance_59 : decode cX5_tryAdvance 59 = .ok (.ireturn, 1) := by decide +kernel
theorem dX5_tryAdvance_60 : decode cX5_tryAdvance 60 = .ok (.aload_n 0, 1) := by decide +kernel
theorem dX5_tryAdvance_61 : decode cX5_tryAdvance 61 = .ok (.getfield 56, 3) := by decide +kernel
theorem dX5_tryAdvance_64 : decode cX5_tryAdvance 64 = .ok (.iload_n 3, 1) := by decide +kernel
theorem dX5_tryAdvance_65 : decode cX5_tryAdvance 65 = .ok (.iadd, 1) := by decide +kernel
theorem dX5_tryAdvance_66 : decode cX5_tryAdvance 66 = .ok (.istore 4, 2) := by decide +kernel
theorem dX5_tryAdvance_68 : decode cX5_tryAdvance 68 = .ok (.aload_n 0, 1) := by decide +kernel
theorem dX5_tryAdvance_69 : decode cX5_tryAdvance 69 = .ok (.getfield 12, 3) := by decide +kernel
theorem dX5_tryAdvance_72 : decode cX5_tryAdvance 72 = .ok (.iload_n 2, 1) := by decide +kernel
theorem dX5_tryAdvance_73 : decode cX5_tryAdvance 73 = .ok (.iload_n 1, 1) := by decide +kernel
theorem dX5_tryAdvance_74 : decode cX5_tryAdvance 74 = .ok (.invokevirtual 115, 3) := by decide +kernel
theorem dX5_tryAdvance_77 : decode cX5_tryAdvance 77 = .ok (.aload_n 0, 1) := by decide +kernel
theorem dX5_tryAdvance_78 : decode cX5_tryAdvance 78 = .ok (.getfield 21, 3) := by decide +kernel
theorem dX5_tryAdvance_81 : decode cX5_tryAdvance 81 = .ok (.iload_n 1, 1) := by decide +kernel
theorem dX5_tryAdvance_82 : decode cX5_tryAdvance 82 = .ok (.aload_n 0, 1) := by decide +kernel
theorem dX5_tryAdvance_83 : decode cX5_tryAdvance 83 = .ok (.getfield 12, 3) := by decide +kernel
theorem dX5_tryAdvance_86 : decode cX5_tryAdvance 86 = .ok (.getfield 125, 3) := by decide +kernel
theorem dX5_tryAdvance_89 : decode cX5_tryAdvance 89 = .ok (.iload_n 2, 1) := by decide +kernel
theorem dX5_tryAdvance_90 : decode cX5_tryAdvance 90 = .ok (.iaload, 1) := by decide +kernel
theorem dX5_tryAdvance_91 : decode cX5_tryAdvance 91 = .ok (.iload 4, 2) := by decide +kernel
theorem dX5_tryAdvance_93 : decode cX5_tryAdvance 93 = .ok (.invokevirtual 135, 3) := by decide +kernel
theorem dX5_tryAdvance_96 : decode cX5_tryAdvance 96 = .ok (.aload_n 0, 1) := by decide +kernel
theorem dX5_tryAdvance_97 : decode cX5_tryAdvance 97 = .ok (.dup, 1) := by decide +kernel
theorem dX5_tryAdvance_98 : decode cX5_tryAdvance 98 = .ok (.getfield 62, 3) := by decide +kernel
theorem dX5_tryAdvance_101 : decode cX5_tryAdvance 101 = .ok (.iconst 1, 1) := by decide +kernel
theorem dX5_tryAdvance_102 : decode cX5_tryAdvance 102 = .ok (.iadd, 1) := by decide +kernel
theorem dX5_tryAdvance_103 : decode cX5_tryAdvance 103 = .ok (.putfield 62, 3) := by decide +kernel
theorem dX5_tryAdvance_106 : decode cX5_tryAdvance 106 = .ok (.iload 4, 2) := by decide +kernel
theorem dX5_tryAdvance_108 : decode cX5_tryAdvance 108 = .ok (.ireturn, 1) := by decide +kernel
set_option maxRecDepth 20000 in
theorem ggX5_tryDeliver_X7_has : GoodIn wsX5_tryDeliver wsX7_has := goodIn_r _ [7, 8, 87, 88, 89, 90, 91, 92] (by decide +kernel) (by decide +kernel)
set_option maxRecDepth 20000 in
theorem gX5_tryDeliver_X7_has_n89 : GoodIn wsX5_tryDeliver (wsX7_has) := ggX5_tryDeliver_X7_has
set_option maxRecDepth 20000 in
theorem ggX5_tryDeliver_X7_isFreeCore : GoodIn wsX5_tryDeliver wsX7_isFreeCore := goodIn_r _ [11, 12, 13, 14, 15, 5, 16, 17, 18, 4, 6, 7, 8, 87, 88, 89, 90, 91, 92] (by decide +kernel) (by decide +kernel)
set_option maxRecDepth 20000 in
theorem gX5_tryDeliver_X7_isFreeCore_n119 : GoodIn wsX5_tryDeliver (wsX7_isFreeCore) := ggX5_tryDeliver_X7_isFreeCore
set_option maxRecDepth 20000 in
theorem ggX5_tryDeliver_X0_oldest : GoodIn wsX5_tryDeliver wsX0_oldest := goodIn_r _ [22, 23, 24, 25, 20, 26, 27, 28, 29, 30, 31, 32, 33, 34, 35, 93, 94, 95] (by decide +kernel) (by decide +kernel)
set_option maxRecDepth 20000 in
theorem gX5_tryDeliver_X0_oldest_n137 : GoodIn wsX5_tryDeliver (wsX0_oldest) := ggX5_tryDeliver_X0_oldest
set_option maxRecDepth 20000 in
theorem ggX5_tryDeliver_X5_priceForCore : GoodIn wsX5_tryDeliver wsX5_priceForCore := goodIn_r _ [40, 41, 1, 42, 5, 43, 44, 45, 18, 4, 6, 7, 8, 46, 47, 48, 49, 50, 51, 52, 78, 79, 80, 81, 82, 83, 84, 85, 86, 87, 88, 89, 90, 91, 92] (by decide +kernel) (by decide +kernel)
set_option maxRecDepth 20000 in
theorem gX5_tryDeliver_X5_priceForCore : GoodIn wsX5_tryDeliver (wsV RX5 128 RX5 yX5_priceForCore wsX5_priceForCore) := goodIn_app (goodIn_of _ (by decide +kernel)) ggX5_tryDeliver_X5_priceForCore
set_option maxRecDepth 20000 in
theorem ggX5_tryDeliver_X0_dueOf : GoodIn wsX5_tryDeliver wsX0_dueOf := goodIn_r _ [55, 56, 28, 29, 30, 20, 31, 32, 33, 34, 35, 93, 94, 95] (by decide +kernel) (by decide +kernel)
set_option maxRecDepth 20000 in
theorem gX5_tryDeliver_X0_dueOf_n140 : GoodIn wsX5_tryDeliver (wsX0_dueOf) := ggX5_tryDeliver_X0_dueOf
set_option maxRecDepth 20000 in
theorem ggX5_tryDeliver_X5_lateFees : GoodIn wsX5_tryDeliver wsX5_lateFees := goodIn_r _ [60, 41, 61, 62, 63, 64, 78, 79, 80, 81, 82, 83, 84, 85, 86] (by decide +kernel) (by decide +kernel)
set_option maxRecDepth 20000 in
theorem gX5_tryDeliver_X5_lateFees : GoodIn wsX5_tryDeliver (wsV RX5 143 RX5 yX5_lateFees wsX5_lateFees) := goodIn_app (goodIn_of _ (by decide +kernel)) ggX5_tryDeliver_X5_lateFees
set_option maxRecDepth 20000 in
theorem ggX5_tryDeliver_X7_giveTo : GoodIn wsX5_tryDeliver wsX7_giveTo := goodIn_r _ [67, 12, 17, 68, 18, 4, 6, 5, 7, 8, 87, 88, 89, 90, 91, 92] (by decide +kernel) (by decide +kernel)
set_option maxRecDepth 20000 in
theorem gX5_tryDeliver_X7_giveTo_n115 : GoodIn wsX5_tryDeliver (wsX7_giveTo) := ggX5_tryDeliver_X7_giveTo
set_option maxRecDepth 20000 in
theorem ggX5_tryDeliver_X0_remove : GoodIn wsX5_tryDeliver wsX0_remove := goodIn_r _ [71, 32, 27, 56, 28, 29, 30, 20, 31, 33, 34, 35, 93, 94, 95] (by decide +kernel) (by decide +kernel)
set_option maxRecDepth 20000 in
theorem gX5_tryDeliver_X0_remove_n146 : GoodIn wsX5_tryDeliver (wsX0_remove) := ggX5_tryDeliver_X0_remove
set_option maxRecDepth 20000 in
theorem ggX5_tryDeliver_X5_pay : GoodIn wsX5_tryDeliver wsX5_pay := goodIn_r _ [75, 76, 77, 33, 34, 35, 78, 79, 80, 81, 82, 83, 84, 85, 86] (by decide +kernel) (by decide +kernel)
set_option maxRecDepth 20000 in
theorem gX5_tryDeliver_X5_pay : GoodIn wsX5_tryDeliver (wsV RX5 111 RX5 yX5_pay wsX5_pay) := goodIn_app (goodIn_of _ (by decide +kernel)) ggX5_tryDeliver_X5_pay
theorem dX5_tryDeliver_0 : decode cX5_tryDeliver 0 = .ok (.aload_n 0, 1) := by decide +kernel
theorem dX5_tryDeliver_1 : decode cX5_tryDeliver 1 = .ok (.getfield 12, 3) := by decide +kernel
theorem dX5_tryDeliver_4 : decode cX5_tryDeliver 4 = .ok (.iload_n 1, 1) := by decide +kernel
theorem dX5_tryDeliver_5 : decode cX5_tryDeliver 5 = .ok (.invokevirtual 89, 3) := by decide +kernel
theorem dX5_tryDeliver_8 : decode cX5_tryDeliver 8 = .ok (.ifCond .ne 5, 3) := by decide +kernel
theorem dX5_tryDeliver_11 : decode cX5_tryDeliver 11 = .ok (.iconst (-1), 1) := by decide +kernel
theorem dX5_tryDeliver_12 : decode cX5_tryDeliver 12 = .ok (.ireturn, 1) := by decide +kernel
theorem dX5_tryDeliver_13 : decode cX5_tryDeliver 13 = .ok (.aload_n 0, 1) := by decide +kernel
theorem dX5_tryDeliver_14 : decode cX5_tryDeliver 14 = .ok (.getfield 12, 3) := by decide +kernel
theorem dX5_tryDeliver_17 : decode cX5_tryDeliver 17 = .ok (.iload_n 1, 1) := by decide +kernel
theorem dX5_tryDeliver_18 : decode cX5_tryDeliver 18 = .ok (.invokevirtual 119, 3) := by decide +kernel
theorem dX5_tryDeliver_21 : decode cX5_tryDeliver 21 = .ok (.ifCond .ne 6, 3) := by decide +kernel
theorem dX5_tryDeliver_24 : decode cX5_tryDeliver 24 = .ok (.bipush (-3), 2) := by decide +kernel
theorem dX5_tryDeliver_26 : decode cX5_tryDeliver 26 = .ok (.ireturn, 1) := by decide +kernel
theorem dX5_tryDeliver_27 : decode cX5_tryDeliver 27 = .ok (.aload_n 0, 1) := by decide +kernel
theorem dX5_tryDeliver_28 : decode cX5_tryDeliver 28 = .ok (.getfield 12, 3) := by decide +kernel
theorem dX5_tryDeliver_31 : decode cX5_tryDeliver 31 = .ok (.getfield 98, 3) := by decide +kernel
theorem dX5_tryDeliver_34 : decode cX5_tryDeliver 34 = .ok (.iload_n 1, 1) := by decide +kernel
theorem dX5_tryDeliver_35 : decode cX5_tryDeliver 35 = .ok (.iaload, 1) := by decide +kernel
theorem dX5_tryDeliver_36 : decode cX5_tryDeliver 36 = .ok (.istore_n 2, 1) := by decide +kernel
theorem dX5_tryDeliver_37 : decode cX5_tryDeliver 37 = .ok (.aload_n 0, 1) := by decide +kernel
theorem dX5_tryDeliver_38 : decode cX5_tryDeliver 38 = .ok (.getfield 21, 3) := by decide +kernel
theorem dX5_tryDeliver_41 : decode cX5_tryDeliver 41 = .ok (.iload_n 2, 1) := by decide +kernel
theorem dX5_tryDeliver_42 : decode cX5_tryDeliver 42 = .ok (.aload_n 0, 1) := by decide +kernel
theorem dX5_tryDeliver_43 : decode cX5_tryDeliver 43 = .ok (.getfield 12, 3) := by decide +kernel
theorem dX5_tryDeliver_46 : decode cX5_tryDeliver 46 = .ok (.getfield 125, 3) := by decide +kernel
theorem dX5_tryDeliver_49 : decode cX5_tryDeliver 49 = .ok (.iload_n 1, 1) := by decide +kernel
theorem dX5_tryDeliver_50 : decode cX5_tryDeliver 50 = .ok (.iaload, 1) := by decide +kernel
theorem dX5_tryDeliver_51 : decode cX5_tryDeliver 51 = .ok (.invokevirtual 137, 3) := by decide +kernel
theorem dX5_tryDeliver_54 : decode cX5_tryDeliver 54 = .ok (.istore_n 3, 1) := by decide +kernel
theorem dX5_tryDeliver_55 : decode cX5_tryDeliver 55 = .ok (.iload_n 3, 1) := by decide +kernel
theorem dX5_tryDeliver_56 : decode cX5_tryDeliver 56 = .ok (.iconst (-1), 1) := by decide +kernel
theorem dX5_tryDeliver_57 : decode cX5_tryDeliver 57 = .ok (.if_icmp .ne 6, 3) := by decide +kernel
theorem dX5_tryDeliver_60 : decode cX5_tryDeliver 60 = .ok (.bipush (-3), 2) := by decide +kernel
theorem dX5_tryDeliver_62 : decode cX5_tryDeliver 62 = .ok (.ireturn, 1) := by decide +kernel
theorem dX5_tryDeliver_63 : decode cX5_tryDeliver 63 = .ok (.aload_n 0, 1) := by decide +kernel
theorem dX5_tryDeliver_64 : decode cX5_tryDeliver 64 = .ok (.iload_n 1, 1) := by decide +kernel
theorem dX5_tryDeliver_65 : decode cX5_tryDeliver 65 = .ok (.invokevirtual 128, 3) := by decide +kernel
theorem dX5_tryDeliver_68 : decode cX5_tryDeliver 68 = .ok (.aload_n 0, 1) := by decide +kernel
theorem dX5_tryDeliver_69 : decode cX5_tryDeliver 69 = .ok (.aload_n 0, 1) := by decide +kernel
theorem dX5_tryDeliver_70 : decode cX5_tryDeliver 70 = .ok (.getfield 21, 3) := by decide +kernel
theorem dX5_tryDeliver_73 : decode cX5_tryDeliver 73 = .ok (.iload_n 2, 1) := by decide +kernel
theorem dX5_tryDeliver_74 : decode cX5_tryDeliver 74 = .ok (.iload_n 3, 1) := by decide +kernel
theorem dX5_tryDeliver_75 : decode cX5_tryDeliver 75 = .ok (.invokevirtual 140, 3) := by decide +kernel
theorem dX5_tryDeliver_78 : decode cX5_tryDeliver 78 = .ok (.aload_n 0, 1) := by decide +kernel
theorem dX5_tryDeliver_79 : decode cX5_tryDeliver 79 = .ok (.getfield 56, 3) := by decide +kernel
theorem dX5_tryDeliver_82 : decode cX5_tryDeliver 82 = .ok (.invokevirtual 143, 3) := by decide +kernel
theorem dX5_tryDeliver_85 : decode cX5_tryDeliver 85 = .ok (.iadd, 1) := by decide +kernel
theorem dX5_tryDeliver_86 : decode cX5_tryDeliver 86 = .ok (.istore 4, 2) := by decide +kernel
theorem dX5_tryDeliver_88 : decode cX5_tryDeliver 88 = .ok (.aload_n 0, 1) := by decide +kernel
theorem dX5_tryDeliver_89 : decode cX5_tryDeliver 89 = .ok (.getfield 12, 3) := by decide +kernel
theorem dX5_tryDeliver_92 : decode cX5_tryDeliver 92 = .ok (.iload_n 1, 1) := by decide +kernel
theorem dX5_tryDeliver_93 : decode cX5_tryDeliver 93 = .ok (.iconst 4, 1) := by decide +kernel
theorem dX5_tryDeliver_94 : decode cX5_tryDeliver 94 = .ok (.invokevirtual 115, 3) := by decide +kernel
theorem dX5_tryDeliver_97 : decode cX5_tryDeliver 97 = .ok (.aload_n 0, 1) := by decide +kernel
theorem dX5_tryDeliver_98 : decode cX5_tryDeliver 98 = .ok (.getfield 21, 3) := by decide +kernel
theorem dX5_tryDeliver_101 : decode cX5_tryDeliver 101 = .ok (.iload_n 2, 1) := by decide +kernel
theorem dX5_tryDeliver_102 : decode cX5_tryDeliver 102 = .ok (.iload_n 3, 1) := by decide +kernel
theorem dX5_tryDeliver_103 : decode cX5_tryDeliver 103 = .ok (.invokevirtual 146, 3) := by decide +kernel
theorem dX5_tryDeliver_106 : decode cX5_tryDeliver 106 = .ok (.aload_n 0, 1) := by decide +kernel
theorem dX5_tryDeliver_107 : decode cX5_tryDeliver 107 = .ok (.iload_n 2, 1) := by decide +kernel
theorem dX5_tryDeliver_108 : decode cX5_tryDeliver 108 = .ok (.iconst 4, 1) := by decide +kernel
theorem dX5_tryDeliver_109 : decode cX5_tryDeliver 109 = .ok (.iload 4, 2) := by decide +kernel
theorem dX5_tryDeliver_111 : decode cX5_tryDeliver 111 = .ok (.invokevirtual 111, 3) := by decide +kernel
theorem dX5_tryDeliver_114 : decode cX5_tryDeliver 114 = .ok (.iload 4, 2) := by decide +kernel
theorem dX5_tryDeliver_116 : decode cX5_tryDeliver 116 = .ok (.ireturn, 1) := by decide +kernel
set_option maxRecDepth 20000 in
theorem ggX5_tryTake_X7_has : GoodIn wsX5_tryTake wsX7_has := goodIn_r _ [7, 8, 46, 47, 48, 49, 50, 51] (by decide +kernel) (by decide +kernel)
set_option maxRecDepth 20000 in
theorem gX5_tryTake_X7_has_n89 : GoodIn wsX5_tryTake (wsX7_has) := ggX5_tryTake_X7_has
set_option maxRecDepth 20000 in
theorem ggX5_tryTake_X8_isPart : GoodIn wsX5_tryTake wsX8_isPart := goodIn_r _ [11] (by decide +kernel) (by decide +kernel)
set_option maxRecDepth 20000 in
theorem gX5_tryTake_X8_isPart_n149 : GoodIn wsX5_tryTake (wsX8_isPart) := ggX5_tryTake_X8_isPart
set_option maxRecDepth 20000 in
theorem ggX5_tryTake_X7_isOfKindAt : GoodIn wsX5_tryTake wsX7_isOfKindAt := goodIn_r _ [14, 15, 16, 17, 4, 6, 5, 7, 8, 46, 47, 48, 49, 50, 51] (by decide +kernel) (by decide +kernel)
set_option maxRecDepth 20000 in
theorem gX5_tryTake_X7_isOfKindAt_n152 : GoodIn wsX5_tryTake (wsX7_isOfKindAt) := ggX5_tryTake_X7_isOfKindAt
set_option maxRecDepth 20000 in
theorem ggX5_tryTake_X7_hasPart : GoodIn wsX5_tryTake wsX7_hasPart := goodIn_r _ [20, 21, 17, 4, 6, 5, 7, 8, 46, 47, 48, 49, 50, 51] (by decide +kernel) (by decide +kernel)
set_option maxRecDepth 20000 in
theorem gX5_tryTake_X7_hasPart_n156 : GoodIn wsX5_tryTake (wsX7_hasPart) := ggX5_tryTake_X7_hasPart
set_option maxRecDepth 20000 in
theorem ggX5_tryTake_X1_addOne : GoodIn wsX5_tryTake wsX1_addOne := goodIn_r _ [25, 26, 27, 28, 23, 29, 30, 10, 31, 32, 33, 9, 11, 52] (by decide +kernel) (by decide +kernel)
set_option maxRecDepth 20000 in
theorem gX5_tryTake_X1_addOne_n163 : GoodIn wsX5_tryTake (wsX1_addOne) := ggX5_tryTake_X1_addOne
set_option maxRecDepth 20000 in
theorem ggX5_tryTake_X1_between : GoodIn wsX5_tryTake wsX1_between := goodIn_r _ [36, 26, 27, 28, 23, 29, 30, 10, 31, 32, 33, 9, 11, 52] (by decide +kernel) (by decide +kernel)
set_option maxRecDepth 20000 in
theorem gX5_tryTake_X1_between_n167 : GoodIn wsX5_tryTake (wsX1_between) := ggX5_tryTake_X1_between
theorem dX5_tryTake_0 : decode cX5_tryTake 0 = .ok (.aload_n 0, 1) := by decide +kernel
theorem dX5_tryTake_1 : decode cX5_tryTake 1 = .ok (.getfield 12, 3) := by decide +kernel
theorem dX5_tryTake_4 : decode cX5_tryTake 4 = .ok (.iload_n 1, 1) := by decide +kernel
theorem dX5_tryTake_5 : decode cX5_tryTake 5 = .ok (.invokevirtual 89, 3) := by decide +kernel
theorem dX5_tryTake_8 : decode cX5_tryTake 8 = .ok (.ifCond .eq 21, 3) := by decide +kernel
theorem dX5_tryTake_11 : decode cX5_tryTake 11 = .ok (.aload_n 0, 1) := by decide +kernel
theorem dX5_tryTake_12 : decode cX5_tryTake 12 = .ok (.getfield 12, 3) := by decide +kernel
theorem dX5_tryTake_15 : decode cX5_tryTake 15 = .ok (.iload_n 2, 1) := by decide +kernel
theorem dX5_tryTake_16 : decode cX5_tryTake 16 = .ok (.invokevirtual 89, 3) := by decide +kernel
theorem dX5_tryTake_19 : decode cX5_tryTake 19 = .ok (.ifCond .eq 10, 3) := by decide +kernel
theorem dX5_tryTake_22 : decode cX5_tryTake 22 = .ok (.iload_n 3, 1) := by decide +kernel
theorem dX5_tryTake_23 : decode cX5_tryTake 23 = .ok (.invokestatic 149, 3) := by decide +kernel
theorem dX5_tryTake_26 : decode cX5_tryTake 26 = .ok (.ifCond .ne 5, 3) := by decide +kernel
theorem dX5_tryTake_29 : decode cX5_tryTake 29 = .ok (.iconst (-1), 1) := by decide +kernel
theorem dX5_tryTake_30 : decode cX5_tryTake 30 = .ok (.ireturn, 1) := by decide +kernel
theorem dX5_tryTake_31 : decode cX5_tryTake 31 = .ok (.aload_n 0, 1) := by decide +kernel
theorem dX5_tryTake_32 : decode cX5_tryTake 32 = .ok (.getfield 12, 3) := by decide +kernel
theorem dX5_tryTake_35 : decode cX5_tryTake 35 = .ok (.iload_n 1, 1) := by decide +kernel
theorem dX5_tryTake_36 : decode cX5_tryTake 36 = .ok (.aload_n 0, 1) := by decide +kernel
theorem dX5_tryTake_37 : decode cX5_tryTake 37 = .ok (.getfield 12, 3) := by decide +kernel
theorem dX5_tryTake_40 : decode cX5_tryTake 40 = .ok (.getfield 125, 3) := by decide +kernel
theorem dX5_tryTake_43 : decode cX5_tryTake 43 = .ok (.iload_n 2, 1) := by decide +kernel
theorem dX5_tryTake_44 : decode cX5_tryTake 44 = .ok (.iaload, 1) := by decide +kernel
theorem dX5_tryTake_45 : decode cX5_tryTake 45 = .ok (.aload_n 0, 1) := by decide +kernel
theorem dX5_tryTake_46 : decode cX5_tryTake 46 = .ok (.getfield 12, 3) := by decide +kernel
theorem dX5_tryTake_49 : decode cX5_tryTake 49 = .ok (.getfield 101, 3) := by decide +kernel
theorem dX5_tryTake_52 : decode cX5_tryTake 52 = .ok (.iload_n 2, 1) := by decide +kernel
theorem dX5_tryTake_53 : decode cX5_tryTake 53 = .ok (.iaload, 1) := by decide +kernel
theorem dX5_tryTake_54 : decode cX5_tryTake 54 = .ok (.invokevirtual 152, 3) := by decide +kernel
theorem dX5_tryTake_57 : decode cX5_tryTake 57 = .ok (.ifCond .eq 27, 3) := by decide +kernel
theorem dX5_tryTake_60 : decode cX5_tryTake 60 = .ok (.aload_n 0, 1) := by decide +kernel
theorem dX5_tryTake_61 : decode cX5_tryTake 61 = .ok (.getfield 12, 3) := by decide +kernel
theorem dX5_tryTake_64 : decode cX5_tryTake 64 = .ok (.iload_n 1, 1) := by decide +kernel
theorem dX5_tryTake_65 : decode cX5_tryTake 65 = .ok (.iload_n 3, 1) := by decide +kernel
theorem dX5_tryTake_66 : decode cX5_tryTake 66 = .ok (.invokevirtual 156, 3) := by decide +kernel
theorem dX5_tryTake_69 : decode cX5_tryTake 69 = .ok (.ifCond .eq 15, 3) := by decide +kernel
theorem dX5_tryTake_72 : decode cX5_tryTake 72 = .ok (.aload_n 0, 1) := by decide +kernel
theorem dX5_tryTake_73 : decode cX5_tryTake 73 = .ok (.getfield 12, 3) := by decide +kernel
theorem dX5_tryTake_76 : decode cX5_tryTake 76 = .ok (.iload_n 2, 1) := by decide +kernel
theorem dX5_tryTake_77 : decode cX5_tryTake 77 = .ok (.iload_n 3, 1) := by decide +kernel
theorem dX5_tryTake_78 : decode cX5_tryTake 78 = .ok (.invokevirtual 156, 3) := by decide +kernel
theorem dX5_tryTake_81 : decode cX5_tryTake 81 = .ok (.ifCond .eq 6, 3) := by decide +kernel
theorem dX5_tryTake_84 : decode cX5_tryTake 84 = .ok (.bipush (-3), 2) := by decide +kernel
theorem dX5_tryTake_86 : decode cX5_tryTake 86 = .ok (.ireturn, 1) := by decide +kernel
theorem dX5_tryTake_87 : decode cX5_tryTake 87 = .ok (.aload_n 0, 1) := by decide +kernel
theorem dX5_tryTake_88 : decode cX5_tryTake 88 = .ok (.getfield 12, 3) := by decide +kernel
theorem dX5_tryTake_91 : decode cX5_tryTake 91 = .ok (.getfield 125, 3) := by decide +kernel
theorem dX5_tryTake_94 : decode cX5_tryTake 94 = .ok (.iload_n 2, 1) := by decide +kernel
theorem dX5_tryTake_95 : decode cX5_tryTake 95 = .ok (.iaload, 1) := by decide +kernel
theorem dX5_tryTake_96 : decode cX5_tryTake 96 = .ok (.istore 4, 2) := by decide +kernel
theorem dX5_tryTake_98 : decode cX5_tryTake 98 = .ok (.aload_n 0, 1) := by decide +kernel
theorem dX5_tryTake_99 : decode cX5_tryTake 99 = .ok (.getfield 12, 3) := by decide +kernel
theorem dX5_tryTake_102 : decode cX5_tryTake 102 = .ok (.getfield 98, 3) := by decide +kernel
theorem dX5_tryTake_105 : decode cX5_tryTake 105 = .ok (.iload_n 1, 1) := by decide +kernel
theorem dX5_tryTake_106 : decode cX5_tryTake 106 = .ok (.iaload, 1) := by decide +kernel
theorem dX5_tryTake_107 : decode cX5_tryTake 107 = .ok (.istore 5, 2) := by decide +kernel
theorem dX5_tryTake_109 : decode cX5_tryTake 109 = .ok (.aload_n 0, 1) := by decide +kernel
theorem dX5_tryTake_110 : decode cX5_tryTake 110 = .ok (.getfield 12, 3) := by decide +kernel
theorem dX5_tryTake_113 : decode cX5_tryTake 113 = .ok (.getfield 98, 3) := by decide +kernel
theorem dX5_tryTake_116 : decode cX5_tryTake 116 = .ok (.iload_n 2, 1) := by decide +kernel
theorem dX5_tryTake_117 : decode cX5_tryTake 117 = .ok (.iaload, 1) := by decide +kernel
theorem dX5_tryTake_118 : decode cX5_tryTake 118 = .ok (.istore 6, 2) := by decide +kernel
theorem dX5_tryTake_120 : decode cX5_tryTake 120 = .ok (.aload_n 0, 1) := by decide +kernel
theorem dX5_tryTake_121 : decode cX5_tryTake 121 = .ok (.getfield 12, 3) := by decide +kernel
theorem dX5_tryTake_124 : decode cX5_tryTake 124 = .ok (.getfield 160, 3) := by decide +kernel
theorem dX5_tryTake_127 : decode cX5_tryTake 127 = .ok (.iload_n 1, 1) := by decide +kernel
theorem dX5_tryTake_128 : decode cX5_tryTake 128 = .ok (.dup2, 1) := by decide +kernel
theorem dX5_tryTake_129 : decode cX5_tryTake 129 = .ok (.iaload, 1) := by decide +kernel
theorem dX5_tryTake_130 : decode cX5_tryTake 130 = .ok (.iconst 1, 1) := by decide +kernel
theorem dX5_tryTake_131 : decode cX5_tryTake 131 = .ok (.iload_n 3, 1) := by decide +kernel
theorem dX5_tryTake_132 : decode cX5_tryTake 132 = .ok (.ishl, 1) := by decide +kernel
theorem dX5_tryTake_133 : decode cX5_tryTake 133 = .ok (.iconst (-1), 1) := by decide +kernel
theorem dX5_tryTake_134 : decode cX5_tryTake 134 = .ok (.ixor, 1) := by decide +kernel
theorem dX5_tryTake_135 : decode cX5_tryTake 135 = .ok (.iand, 1) := by decide +kernel
theorem dX5_tryTake_136 : decode cX5_tryTake 136 = .ok (.iastore, 1) := by decide +kernel
theorem dX5_tryTake_137 : decode cX5_tryTake 137 = .ok (.aload_n 0, 1) := by decide +kernel
theorem dX5_tryTake_138 : decode cX5_tryTake 138 = .ok (.getfield 12, 3) := by decide +kernel
theorem dX5_tryTake_141 : decode cX5_tryTake 141 = .ok (.getfield 160, 3) := by decide +kernel
theorem dX5_tryTake_144 : decode cX5_tryTake 144 = .ok (.iload_n 2, 1) := by decide +kernel
theorem dX5_tryTake_145 : decode cX5_tryTake 145 = .ok (.dup2, 1) := by decide +kernel
theorem dX5_tryTake_146 : decode cX5_tryTake 146 = .ok (.iaload, 1) := by decide +kernel
theorem dX5_tryTake_147 : decode cX5_tryTake 147 = .ok (.iconst 1, 1) := by decide +kernel
theorem dX5_tryTake_148 : decode cX5_tryTake 148 = .ok (.iload_n 3, 1) := by decide +kernel
theorem dX5_tryTake_149 : decode cX5_tryTake 149 = .ok (.ishl, 1) := by decide +kernel
theorem dX5_tryTake_150 : decode cX5_tryTake 150 = .ok (.ior, 1) := by decide +kernel
theorem dX5_tryTake_151 : decode cX5_tryTake 151 = .ok (.iastore, 1) := by decide +kernel
theorem dX5_tryTake_152 : decode cX5_tryTake 152 = .ok (.aload_n 0, 1) := by decide +kernel
theorem dX5_tryTake_153 : decode cX5_tryTake 153 = .ok (.dup, 1) := by decide +kernel
theorem dX5_tryTake_154 : decode cX5_tryTake 154 = .ok (.getfield 59, 3) := by decide +kernel
theorem dX5_tryTake_157 : decode cX5_tryTake 157 = .ok (.iconst 1, 1) := by decide +kernel
theorem dX5_tryTake_158 : decode cX5_tryTake 158 = .ok (.iadd, 1) := by decide +kernel
theorem dX5_tryTake_159 : decode cX5_tryTake 159 = .ok (.putfield 59, 3) := by decide +kernel
theorem dX5_tryTake_162 : decode cX5_tryTake 162 = .ok (.aload_n 0, 1) := by decide +kernel
theorem dX5_tryTake_163 : decode cX5_tryTake 163 = .ok (.getfield 28, 3) := by decide +kernel
theorem dX5_tryTake_166 : decode cX5_tryTake 166 = .ok (.iload 6, 2) := by decide +kernel
theorem dX5_tryTake_168 : decode cX5_tryTake 168 = .ok (.iload 5, 2) := by decide +kernel
theorem dX5_tryTake_170 : decode cX5_tryTake 170 = .ok (.iload 4, 2) := by decide +kernel
theorem dX5_tryTake_172 : decode cX5_tryTake 172 = .ok (.iload_n 3, 1) := by decide +kernel
theorem dX5_tryTake_173 : decode cX5_tryTake 173 = .ok (.invokevirtual 163, 3) := by decide +kernel
theorem dX5_tryTake_176 : decode cX5_tryTake 176 = .ok (.aload_n 0, 1) := by decide +kernel
theorem dX5_tryTake_177 : decode cX5_tryTake 177 = .ok (.getfield 28, 3) := by decide +kernel
theorem dX5_tryTake_180 : decode cX5_tryTake 180 = .ok (.iload 6, 2) := by decide +kernel
theorem dX5_tryTake_182 : decode cX5_tryTake 182 = .ok (.iload 5, 2) := by decide +kernel
theorem dX5_tryTake_184 : decode cX5_tryTake 184 = .ok (.iload 4, 2) := by decide +kernel
theorem dX5_tryTake_186 : decode cX5_tryTake 186 = .ok (.iload_n 3, 1) := by decide +kernel
theorem dX5_tryTake_187 : decode cX5_tryTake 187 = .ok (.invokevirtual 167, 3) := by decide +kernel
theorem dX5_tryTake_190 : decode cX5_tryTake 190 = .ok (.ireturn, 1) := by decide +kernel
set_option maxRecDepth 20000 in
theorem ggX5_trySettle_X8_isHolder : GoodIn wsX5_trySettle wsX8_isHolder := goodIn_r _ [5] (by decide +kernel) (by decide +kernel)
set_option maxRecDepth 20000 in
theorem gX5_trySettle_X8_isHolder_n82 : GoodIn wsX5_trySettle (wsX8_isHolder) := ggX5_trySettle_X8_isHolder
set_option maxRecDepth 20000 in
theorem ggX5_trySettle_X8_isKind : GoodIn wsX5_trySettle wsX8_isKind := goodIn_r _ [7] (by decide +kernel) (by decide +kernel)
set_option maxRecDepth 20000 in
theorem gX5_trySettle_X8_isKind_n78 : GoodIn wsX5_trySettle (wsX8_isKind) := ggX5_trySettle_X8_isKind
set_option maxRecDepth 20000 in
theorem ggX5_trySettle_X8_isPart : GoodIn wsX5_trySettle wsX8_isPart := goodIn_r _ [9] (by decide +kernel) (by decide +kernel)
set_option maxRecDepth 20000 in
theorem gX5_trySettle_X8_isPart_n149 : GoodIn wsX5_trySettle (wsX8_isPart) := ggX5_trySettle_X8_isPart
set_option maxRecDepth 20000 in
theorem ggX5_trySettle_X1_between : GoodIn wsX5_trySettle wsX1_between := goodIn_r _ [13, 14, 15, 16, 11, 17, 3, 4, 5, 6, 7, 8, 9, 37] (by decide +kernel) (by decide +kernel)
set_option maxRecDepth 20000 in
theorem gX5_trySettle_X1_between_n167 : GoodIn wsX5_trySettle (wsX1_between) := ggX5_trySettle_X1_between
set_option maxRecDepth 20000 in
theorem ggX5_trySettle_X1_removeOne : GoodIn wsX5_trySettle wsX1_removeOne := goodIn_r _ [20, 14, 15, 16, 11, 17, 3, 4, 5, 6, 7, 8, 9, 37] (by decide +kernel) (by decide +kernel)
set_option maxRecDepth 20000 in
theorem gX5_trySettle_X1_removeOne_n171 : GoodIn wsX5_trySettle (wsX1_removeOne) := ggX5_trySettle_X1_removeOne
set_option maxRecDepth 20000 in
theorem ggX5_trySettle_X5_pay : GoodIn wsX5_trySettle wsX5_pay := goodIn_r _ [25, 26, 27, 3, 4, 5, 28, 29, 30, 31, 32, 33, 34, 35, 36] (by decide +kernel) (by decide +kernel)
set_option maxRecDepth 20000 in
theorem gX5_trySettle_X5_pay : GoodIn wsX5_trySettle (wsV RX5 111 RX5 yX5_pay wsX5_pay) := goodIn_app (goodIn_of _ (by decide +kernel)) ggX5_trySettle_X5_pay
theorem dX5_trySettle_0 : decode cX5_trySettle 0 = .ok (.iload_n 1, 1) := by decide +kernel
theorem dX5_trySettle_1 : decode cX5_trySettle 1 = .ok (.invokestatic 82, 3) := by decide +kernel
theorem dX5_trySettle_4 : decode cX5_trySettle 4 = .ok (.ifCond .eq 25, 3) := by decide +kernel
theorem dX5_trySettle_7 : decode cX5_trySettle 7 = .ok (.iload_n 2, 1) := by decide +kernel
theorem dX5_trySettle_8 : decode cX5_trySettle 8 = .ok (.invokestatic 82, 3) := by decide +kernel
theorem dX5_trySettle_11 : decode cX5_trySettle 11 = .ok (.ifCond .eq 18, 3) := by decide +kernel
theorem dX5_trySettle_14 : decode cX5_trySettle 14 = .ok (.iload_n 3, 1) := by decide +kernel
theorem dX5_trySettle_15 : decode cX5_trySettle 15 = .ok (.invokestatic 78, 3) := by decide +kernel
theorem dX5_trySettle_18 : decode cX5_trySettle 18 = .ok (.ifCond .eq 11, 3) := by decide +kernel
theorem dX5_trySettle_21 : decode cX5_trySettle 21 = .ok (.iload 4, 2) := by decide +kernel
theorem dX5_trySettle_23 : decode cX5_trySettle 23 = .ok (.invokestatic 149, 3) := by decide +kernel
theorem dX5_trySettle_26 : decode cX5_trySettle 26 = .ok (.ifCond .ne 5, 3) := by decide +kernel
theorem dX5_trySettle_29 : decode cX5_trySettle 29 = .ok (.iconst (-1), 1) := by decide +kernel
theorem dX5_trySettle_30 : decode cX5_trySettle 30 = .ok (.ireturn, 1) := by decide +kernel
theorem dX5_trySettle_31 : decode cX5_trySettle 31 = .ok (.aload_n 0, 1) := by decide +kernel
theorem dX5_trySettle_32 : decode cX5_trySettle 32 = .ok (.getfield 28, 3) := by decide +kernel
theorem dX5_trySettle_35 : decode cX5_trySettle 35 = .ok (.iload_n 1, 1) := by decide +kernel
theorem dX5_trySettle_36 : decode cX5_trySettle 36 = .ok (.iload_n 2, 1) := by decide +kernel
theorem dX5_trySettle_37 : decode cX5_trySettle 37 = .ok (.iload_n 3, 1) := by decide +kernel
theorem dX5_trySettle_38 : decode cX5_trySettle 38 = .ok (.iload 4, 2) := by decide +kernel
theorem dX5_trySettle_40 : decode cX5_trySettle 40 = .ok (.invokevirtual 167, 3) := by decide +kernel
theorem dX5_trySettle_43 : decode cX5_trySettle 43 = .ok (.ifCond .ne 6, 3) := by decide +kernel
theorem dX5_trySettle_46 : decode cX5_trySettle 46 = .ok (.bipush (-3), 2) := by decide +kernel
theorem dX5_trySettle_48 : decode cX5_trySettle 48 = .ok (.ireturn, 1) := by decide +kernel
theorem dX5_trySettle_49 : decode cX5_trySettle 49 = .ok (.aload_n 0, 1) := by decide +kernel
theorem dX5_trySettle_50 : decode cX5_trySettle 50 = .ok (.getfield 28, 3) := by decide +kernel
theorem dX5_trySettle_53 : decode cX5_trySettle 53 = .ok (.iload_n 1, 1) := by decide +kernel
theorem dX5_trySettle_54 : decode cX5_trySettle 54 = .ok (.iload_n 2, 1) := by decide +kernel
theorem dX5_trySettle_55 : decode cX5_trySettle 55 = .ok (.iload_n 3, 1) := by decide +kernel
theorem dX5_trySettle_56 : decode cX5_trySettle 56 = .ok (.iload 4, 2) := by decide +kernel
theorem dX5_trySettle_58 : decode cX5_trySettle 58 = .ok (.invokevirtual 171, 3) := by decide +kernel
theorem dX5_trySettle_61 : decode cX5_trySettle 61 = .ok (.aload_n 0, 1) := by decide +kernel
theorem dX5_trySettle_62 : decode cX5_trySettle 62 = .ok (.iload_n 1, 1) := by decide +kernel
theorem dX5_trySettle_63 : decode cX5_trySettle 63 = .ok (.iload_n 2, 1) := by decide +kernel
theorem dX5_trySettle_64 : decode cX5_trySettle 64 = .ok (.aload_n 0, 1) := by decide +kernel
theorem dX5_trySettle_65 : decode cX5_trySettle 65 = .ok (.getfield 36, 3) := by decide +kernel
theorem dX5_trySettle_68 : decode cX5_trySettle 68 = .ok (.iconst 2, 1) := by decide +kernel
theorem dX5_trySettle_69 : decode cX5_trySettle 69 = .ok (.iaload, 1) := by decide +kernel
theorem dX5_trySettle_70 : decode cX5_trySettle 70 = .ok (.invokevirtual 111, 3) := by decide +kernel
theorem dX5_trySettle_73 : decode cX5_trySettle 73 = .ok (.aload_n 0, 1) := by decide +kernel
theorem dX5_trySettle_74 : decode cX5_trySettle 74 = .ok (.getfield 28, 3) := by decide +kernel
theorem dX5_trySettle_77 : decode cX5_trySettle 77 = .ok (.iload_n 1, 1) := by decide +kernel
theorem dX5_trySettle_78 : decode cX5_trySettle 78 = .ok (.iload_n 2, 1) := by decide +kernel
theorem dX5_trySettle_79 : decode cX5_trySettle 79 = .ok (.iload_n 3, 1) := by decide +kernel
theorem dX5_trySettle_80 : decode cX5_trySettle 80 = .ok (.iload 4, 2) := by decide +kernel
theorem dX5_trySettle_82 : decode cX5_trySettle 82 = .ok (.invokevirtual 167, 3) := by decide +kernel
theorem dX5_trySettle_85 : decode cX5_trySettle 85 = .ok (.ireturn, 1) := by decide +kernel
set_option maxRecDepth 20000 in
theorem ggX5_tryBuy_X7_has : GoodIn wsX5_tryBuy wsX7_has := goodIn_r _ [6, 7, 34, 35, 36, 37, 38, 39] (by decide +kernel) (by decide +kernel)
set_option maxRecDepth 20000 in
theorem gX5_tryBuy_X7_has_n89 : GoodIn wsX5_tryBuy (wsX7_has) := ggX5_tryBuy_X7_has
set_option maxRecDepth 20000 in
theorem ggX5_tryBuy_X8_isPart : GoodIn wsX5_tryBuy wsX8_isPart := goodIn_r _ [10] (by decide +kernel) (by decide +kernel)
set_option maxRecDepth 20000 in
theorem gX5_tryBuy_X8_isPart_n149 : GoodIn wsX5_tryBuy (wsX8_isPart) := ggX5_tryBuy_X8_isPart
set_option maxRecDepth 20000 in
theorem ggX5_tryBuy_X7_hasPart : GoodIn wsX5_tryBuy wsX7_hasPart := goodIn_r _ [13, 14, 15, 3, 5, 4, 6, 7, 34, 35, 36, 37, 38, 39] (by decide +kernel) (by decide +kernel)
set_option maxRecDepth 20000 in
theorem gX5_tryBuy_X7_hasPart_n156 : GoodIn wsX5_tryBuy (wsX7_hasPart) := ggX5_tryBuy_X7_hasPart
set_option maxRecDepth 20000 in
theorem ggX5_tryBuy_X5_pay : GoodIn wsX5_tryBuy wsX5_pay := goodIn_r _ [20, 21, 22, 23, 9, 24, 25, 26, 27, 28, 29, 30, 31, 32, 33] (by decide +kernel) (by decide +kernel)
set_option maxRecDepth 20000 in
theorem gX5_tryBuy_X5_pay : GoodIn wsX5_tryBuy (wsV RX5 111 RX5 yX5_pay wsX5_pay) := goodIn_app (goodIn_of _ (by decide +kernel)) ggX5_tryBuy_X5_pay
theorem dX5_tryBuy_0 : decode cX5_tryBuy 0 = .ok (.aload_n 0, 1) := by decide +kernel
theorem dX5_tryBuy_1 : decode cX5_tryBuy 1 = .ok (.getfield 12, 3) := by decide +kernel
theorem dX5_tryBuy_4 : decode cX5_tryBuy 4 = .ok (.iload_n 1, 1) := by decide +kernel
theorem dX5_tryBuy_5 : decode cX5_tryBuy 5 = .ok (.invokevirtual 89, 3) := by decide +kernel
theorem dX5_tryBuy_8 : decode cX5_tryBuy 8 = .ok (.ifCond .eq 10, 3) := by decide +kernel
theorem dX5_tryBuy_11 : decode cX5_tryBuy 11 = .ok (.iload_n 2, 1) := by decide +kernel
theorem dX5_tryBuy_12 : decode cX5_tryBuy 12 = .ok (.invokestatic 149, 3) := by decide +kernel
theorem dX5_tryBuy_15 : decode cX5_tryBuy 15 = .ok (.ifCond .ne 5, 3) := by decide +kernel
theorem dX5_tryBuy_18 : decode cX5_tryBuy 18 = .ok (.iconst (-1), 1) := by decide +kernel
theorem dX5_tryBuy_19 : decode cX5_tryBuy 19 = .ok (.ireturn, 1) := by decide +kernel
theorem dX5_tryBuy_20 : decode cX5_tryBuy 20 = .ok (.aload_n 0, 1) := by decide +kernel
theorem dX5_tryBuy_21 : decode cX5_tryBuy 21 = .ok (.getfield 12, 3) := by decide +kernel
theorem dX5_tryBuy_24 : decode cX5_tryBuy 24 = .ok (.iload_n 1, 1) := by decide +kernel
theorem dX5_tryBuy_25 : decode cX5_tryBuy 25 = .ok (.iload_n 2, 1) := by decide +kernel
theorem dX5_tryBuy_26 : decode cX5_tryBuy 26 = .ok (.invokevirtual 156, 3) := by decide +kernel
theorem dX5_tryBuy_29 : decode cX5_tryBuy 29 = .ok (.ifCond .eq 6, 3) := by decide +kernel
theorem dX5_tryBuy_32 : decode cX5_tryBuy 32 = .ok (.bipush (-3), 2) := by decide +kernel
theorem dX5_tryBuy_34 : decode cX5_tryBuy 34 = .ok (.ireturn, 1) := by decide +kernel
theorem dX5_tryBuy_35 : decode cX5_tryBuy 35 = .ok (.aload_n 0, 1) := by decide +kernel
theorem dX5_tryBuy_36 : decode cX5_tryBuy 36 = .ok (.getfield 12, 3) := by decide +kernel
theorem dX5_tryBuy_39 : decode cX5_tryBuy 39 = .ok (.getfield 160, 3) := by decide +kernel
theorem dX5_tryBuy_42 : decode cX5_tryBuy 42 = .ok (.iload_n 1, 1) := by decide +kernel
theorem dX5_tryBuy_43 : decode cX5_tryBuy 43 = .ok (.dup2, 1) := by decide +kernel
theorem dX5_tryBuy_44 : decode cX5_tryBuy 44 = .ok (.iaload, 1) := by decide +kernel
theorem dX5_tryBuy_45 : decode cX5_tryBuy 45 = .ok (.iconst 1, 1) := by decide +kernel
theorem dX5_tryBuy_46 : decode cX5_tryBuy 46 = .ok (.iload_n 2, 1) := by decide +kernel
theorem dX5_tryBuy_47 : decode cX5_tryBuy 47 = .ok (.ishl, 1) := by decide +kernel
theorem dX5_tryBuy_48 : decode cX5_tryBuy 48 = .ok (.ior, 1) := by decide +kernel
theorem dX5_tryBuy_49 : decode cX5_tryBuy 49 = .ok (.iastore, 1) := by decide +kernel
theorem dX5_tryBuy_50 : decode cX5_tryBuy 50 = .ok (.aload_n 0, 1) := by decide +kernel
theorem dX5_tryBuy_51 : decode cX5_tryBuy 51 = .ok (.aload_n 0, 1) := by decide +kernel
theorem dX5_tryBuy_52 : decode cX5_tryBuy 52 = .ok (.getfield 12, 3) := by decide +kernel
theorem dX5_tryBuy_55 : decode cX5_tryBuy 55 = .ok (.getfield 98, 3) := by decide +kernel
theorem dX5_tryBuy_58 : decode cX5_tryBuy 58 = .ok (.iload_n 1, 1) := by decide +kernel
theorem dX5_tryBuy_59 : decode cX5_tryBuy 59 = .ok (.iaload, 1) := by decide +kernel
theorem dX5_tryBuy_60 : decode cX5_tryBuy 60 = .ok (.iconst (-1), 1) := by decide +kernel
theorem dX5_tryBuy_61 : decode cX5_tryBuy 61 = .ok (.aload_n 0, 1) := by decide +kernel
theorem dX5_tryBuy_62 : decode cX5_tryBuy 62 = .ok (.getfield 36, 3) := by decide +kernel
theorem dX5_tryBuy_65 : decode cX5_tryBuy 65 = .ok (.iconst 2, 1) := by decide +kernel
theorem dX5_tryBuy_66 : decode cX5_tryBuy 66 = .ok (.iaload, 1) := by decide +kernel
theorem dX5_tryBuy_67 : decode cX5_tryBuy 67 = .ok (.invokevirtual 111, 3) := by decide +kernel
theorem dX5_tryBuy_70 : decode cX5_tryBuy 70 = .ok (.aload_n 0, 1) := by decide +kernel
theorem dX5_tryBuy_71 : decode cX5_tryBuy 71 = .ok (.getfield 12, 3) := by decide +kernel
theorem dX5_tryBuy_74 : decode cX5_tryBuy 74 = .ok (.getfield 160, 3) := by decide +kernel
theorem dX5_tryBuy_77 : decode cX5_tryBuy 77 = .ok (.iload_n 1, 1) := by decide +kernel
theorem dX5_tryBuy_78 : decode cX5_tryBuy 78 = .ok (.iaload, 1) := by decide +kernel
theorem dX5_tryBuy_79 : decode cX5_tryBuy 79 = .ok (.ireturn, 1) := by decide +kernel
theorem dX5_tryDays_0 : decode cX5_tryDays 0 = .ok (.iload_n 1, 1) := by decide +kernel
theorem dX5_tryDays_1 : decode cX5_tryDays 1 = .ok (.iconst 1, 1) := by decide +kernel
theorem dX5_tryDays_2 : decode cX5_tryDays 2 = .ok (.if_icmp .lt 9, 3) := by decide +kernel
theorem dX5_tryDays_5 : decode cX5_tryDays 5 = .ok (.iload_n 1, 1) := by decide +kernel
theorem dX5_tryDays_6 : decode cX5_tryDays 6 = .ok (.bipush 99, 2) := by decide +kernel
theorem dX5_tryDays_8 : decode cX5_tryDays 8 = .ok (.if_icmp .le 6, 3) := by decide +kernel
theorem dX5_tryDays_11 : decode cX5_tryDays 11 = .ok (.bipush (-2), 2) := by decide +kernel
theorem dX5_tryDays_13 : decode cX5_tryDays 13 = .ok (.ireturn, 1) := by decide +kernel
theorem dX5_tryDays_14 : decode cX5_tryDays 14 = .ok (.aload_n 0, 1) := by decide +kernel
theorem dX5_tryDays_15 : decode cX5_tryDays 15 = .ok (.dup, 1) := by decide +kernel
theorem dX5_tryDays_16 : decode cX5_tryDays 16 = .ok (.getfield 56, 3) := by decide +kernel
theorem dX5_tryDays_19 : decode cX5_tryDays 19 = .ok (.iload_n 1, 1) := by decide +kernel
theorem dX5_tryDays_20 : decode cX5_tryDays 20 = .ok (.iadd, 1) := by decide +kernel
theorem dX5_tryDays_21 : decode cX5_tryDays 21 = .ok (.putfield 56, 3) := by decide +kernel
theorem dX5_tryDays_24 : decode cX5_tryDays 24 = .ok (.aload_n 0, 1) := by decide +kernel
theorem dX5_tryDays_25 : decode cX5_tryDays 25 = .ok (.getfield 56, 3) := by decide +kernel
theorem dX5_tryDays_28 : decode cX5_tryDays 28 = .ok (.ireturn, 1) := by decide +kernel
set_option maxRecDepth 20000 in
theorem ggX5_trySet_X8_isSetting : GoodIn wsX5_trySet wsX8_isSetting := goodIn_r _ [4] (by decide +kernel) (by decide +kernel)
set_option maxRecDepth 20000 in
theorem gX5_trySet_X8_isSetting_n174 : GoodIn wsX5_trySet (wsX8_isSetting) := ggX5_trySet_X8_isSetting
theorem dX5_trySet_0 : decode cX5_trySet 0 = .ok (.iload_n 1, 1) := by decide +kernel
theorem dX5_trySet_1 : decode cX5_trySet 1 = .ok (.invokestatic 174, 3) := by decide +kernel
theorem dX5_trySet_4 : decode cX5_trySet 4 = .ok (.ifCond .eq 16, 3) := by decide +kernel
theorem dX5_trySet_7 : decode cX5_trySet 7 = .ok (.iload_n 2, 1) := by decide +kernel
theorem dX5_trySet_8 : decode cX5_trySet 8 = .ok (.ifCond .lt 12, 3) := by decide +kernel
theorem dX5_trySet_11 : decode cX5_trySet 11 = .ok (.iload_n 2, 1) := by decide +kernel
theorem dX5_trySet_12 : decode cX5_trySet 12 = .ok (.getstatic 177, 3) := by decide +kernel
theorem dX5_trySet_15 : decode cX5_trySet 15 = .ok (.iload_n 1, 1) := by decide +kernel
theorem dX5_trySet_16 : decode cX5_trySet 16 = .ok (.iaload, 1) := by decide +kernel
theorem dX5_trySet_17 : decode cX5_trySet 17 = .ok (.if_icmp .le 6, 3) := by decide +kernel
theorem dX5_trySet_20 : decode cX5_trySet 20 = .ok (.bipush (-2), 2) := by decide +kernel
theorem dX5_trySet_22 : decode cX5_trySet 22 = .ok (.ireturn, 1) := by decide +kernel
theorem dX5_trySet_23 : decode cX5_trySet 23 = .ok (.aload_n 0, 1) := by decide +kernel
theorem dX5_trySet_24 : decode cX5_trySet 24 = .ok (.getfield 36, 3) := by decide +kernel
theorem dX5_trySet_27 : decode cX5_trySet 27 = .ok (.iload_n 1, 1) := by decide +kernel
theorem dX5_trySet_28 : decode cX5_trySet 28 = .ok (.iaload, 1) := by decide +kernel
theorem dX5_trySet_29 : decode cX5_trySet 29 = .ok (.istore_n 3, 1) := by decide +kernel
theorem dX5_trySet_30 : decode cX5_trySet 30 = .ok (.aload_n 0, 1) := by decide +kernel
theorem dX5_trySet_31 : decode cX5_trySet 31 = .ok (.getfield 36, 3) := by decide +kernel
theorem dX5_trySet_34 : decode cX5_trySet 34 = .ok (.iload_n 1, 1) := by decide +kernel
theorem dX5_trySet_35 : decode cX5_trySet 35 = .ok (.iload_n 2, 1) := by decide +kernel
theorem dX5_trySet_36 : decode cX5_trySet 36 = .ok (.iastore, 1) := by decide +kernel
theorem dX5_trySet_37 : decode cX5_trySet 37 = .ok (.iload_n 3, 1) := by decide +kernel
theorem dX5_trySet_38 : decode cX5_trySet 38 = .ok (.ireturn, 1) := by decide +kernel
set_option maxRecDepth 20000 in
theorem ggX5_pay_X8_isHolder : GoodIn wsX5_pay wsX8_isHolder := goodIn_r _ [5] (by decide +kernel) (by decide +kernel)
set_option maxRecDepth 20000 in
theorem gX5_pay_X8_isHolder_n82 : GoodIn wsX5_pay (wsX8_isHolder) := ggX5_pay_X8_isHolder
theorem dX5_pay_0 : decode cX5_pay 0 = .ok (.iload_n 1, 1) := by decide +kernel
theorem dX5_pay_1 : decode cX5_pay 1 = .ok (.invokestatic 82, 3) := by decide +kernel
theorem dX5_pay_4 : decode cX5_pay 4 = .ok (.ifCond .eq 13, 3) := by decide +kernel
theorem dX5_pay_7 : decode cX5_pay 7 = .ok (.aload_n 0, 1) := by decide +kernel
theorem dX5_pay_8 : decode cX5_pay 8 = .ok (.getfield 32, 3) := by decide +kernel
theorem dX5_pay_11 : decode cX5_pay 11 = .ok (.iload_n 1, 1) := by decide +kernel
theorem dX5_pay_12 : decode cX5_pay 12 = .ok (.dup2, 1) := by decide +kernel
theorem dX5_pay_13 : decode cX5_pay 13 = .ok (.iaload, 1) := by decide +kernel
theorem dX5_pay_14 : decode cX5_pay 14 = .ok (.iload_n 3, 1) := by decide +kernel
theorem dX5_pay_15 : decode cX5_pay 15 = .ok (.isub, 1) := by decide +kernel
theorem dX5_pay_16 : decode cX5_pay 16 = .ok (.iastore, 1) := by decide +kernel
theorem dX5_pay_17 : decode cX5_pay 17 = .ok (.iload_n 2, 1) := by decide +kernel
theorem dX5_pay_18 : decode cX5_pay 18 = .ok (.invokestatic 82, 3) := by decide +kernel
theorem dX5_pay_21 : decode cX5_pay 21 = .ok (.ifCond .eq 16, 3) := by decide +kernel
theorem dX5_pay_24 : decode cX5_pay 24 = .ok (.aload_n 0, 1) := by decide +kernel
theorem dX5_pay_25 : decode cX5_pay 25 = .ok (.getfield 32, 3) := by decide +kernel
theorem dX5_pay_28 : decode cX5_pay 28 = .ok (.iload_n 2, 1) := by decide +kernel
theorem dX5_pay_29 : decode cX5_pay 29 = .ok (.dup2, 1) := by decide +kernel
theorem dX5_pay_30 : decode cX5_pay 30 = .ok (.iaload, 1) := by decide +kernel
theorem dX5_pay_31 : decode cX5_pay 31 = .ok (.iload_n 3, 1) := by decide +kernel
theorem dX5_pay_32 : decode cX5_pay 32 = .ok (.iadd, 1) := by decide +kernel
theorem dX5_pay_33 : decode cX5_pay 33 = .ok (.iastore, 1) := by decide +kernel
theorem dX5_pay_34 : decode cX5_pay 34 = .ok (.goto 13, 3) := by decide +kernel
theorem dX5_pay_37 : decode cX5_pay 37 = .ok (.aload_n 0, 1) := by decide +kernel
theorem dX5_pay_38 : decode cX5_pay 38 = .ok (.dup, 1) := by decide +kernel
theorem dX5_pay_39 : decode cX5_pay 39 = .ok (.getfield 65, 3) := by decide +kernel
theorem dX5_pay_42 : decode cX5_pay 42 = .ok (.iload_n 3, 1) := by decide +kernel
theorem dX5_pay_43 : decode cX5_pay 43 = .ok (.iadd, 1) := by decide +kernel
theorem dX5_pay_44 : decode cX5_pay 44 = .ok (.putfield 65, 3) := by decide +kernel
theorem dX5_pay_47 : decode cX5_pay 47 = .ok (.return_, 1) := by decide +kernel
set_option maxRecDepth 20000 in
theorem ggX5_priceForCore_X7_missingParts : GoodIn wsX5_priceForCore wsX7_missingParts := goodIn_r _ [6, 7, 8, 9, 10, 4, 11, 12, 13, 14, 15, 16, 17, 18, 19, 29, 30, 31, 32, 33, 34] (by decide +kernel) (by decide +kernel)
set_option maxRecDepth 20000 in
theorem gX5_priceForCore_X7_missingParts_n180 : GoodIn wsX5_priceForCore (wsX7_missingParts) := ggX5_priceForCore_X7_missingParts
theorem dX5_priceForCore_0 : decode cX5_priceForCore 0 = .ok (.aload_n 0, 1) := by decide +kernel
theorem dX5_priceForCore_1 : decode cX5_priceForCore 1 = .ok (.getfield 36, 3) := by decide +kernel
theorem dX5_priceForCore_4 : decode cX5_priceForCore 4 = .ok (.iconst 1, 1) := by decide +kernel
theorem dX5_priceForCore_5 : decode cX5_priceForCore 5 = .ok (.iaload, 1) := by decide +kernel
theorem dX5_priceForCore_6 : decode cX5_priceForCore 6 = .ok (.aload_n 0, 1) := by decide +kernel
theorem dX5_priceForCore_7 : decode cX5_priceForCore 7 = .ok (.getfield 36, 3) := by decide +kernel
theorem dX5_priceForCore_10 : decode cX5_priceForCore 10 = .ok (.iconst 2, 1) := by decide +kernel
theorem dX5_priceForCore_11 : decode cX5_priceForCore 11 = .ok (.iaload, 1) := by decide +kernel
theorem dX5_priceForCore_12 : decode cX5_priceForCore 12 = .ok (.aload_n 0, 1) := by decide +kernel
theorem dX5_priceForCore_13 : decode cX5_priceForCore 13 = .ok (.getfield 12, 3) := by decide +kernel
theorem dX5_priceForCore_16 : decode cX5_priceForCore 16 = .ok (.iload_n 1, 1) := by decide +kernel
theorem dX5_priceForCore_17 : decode cX5_priceForCore 17 = .ok (.invokevirtual 180, 3) := by decide +kernel
theorem dX5_priceForCore_20 : decode cX5_priceForCore 20 = .ok (.imul, 1) := by decide +kernel
theorem dX5_priceForCore_21 : decode cX5_priceForCore 21 = .ok (.iadd, 1) := by decide +kernel
theorem dX5_priceForCore_22 : decode cX5_priceForCore 22 = .ok (.ireturn, 1) := by decide +kernel
theorem dX5_lateFees_0 : decode cX5_lateFees 0 = .ok (.aload_n 0, 1) := by decide +kernel
theorem dX5_lateFees_1 : decode cX5_lateFees 1 = .ok (.getfield 36, 3) := by decide +kernel
theorem dX5_lateFees_4 : decode cX5_lateFees 4 = .ok (.iconst 0, 1) := by decide +kernel
theorem dX5_lateFees_5 : decode cX5_lateFees 5 = .ok (.iaload, 1) := by decide +kernel
theorem dX5_lateFees_6 : decode cX5_lateFees 6 = .ok (.iconst 0, 1) := by decide +kernel
theorem dX5_lateFees_7 : decode cX5_lateFees 7 = .ok (.iload_n 2, 1) := by decide +kernel
theorem dX5_lateFees_8 : decode cX5_lateFees 8 = .ok (.iload_n 1, 1) := by decide +kernel
theorem dX5_lateFees_9 : decode cX5_lateFees 9 = .ok (.isub, 1) := by decide +kernel
theorem dX5_lateFees_10 : decode cX5_lateFees 10 = .ok (.invokestatic 183, 3) := by decide +kernel
theorem dX5_lateFees_13 : decode cX5_lateFees 13 = .ok (.imul, 1) := by decide +kernel
theorem dX5_lateFees_14 : decode cX5_lateFees 14 = .ok (.ireturn, 1) := by decide +kernel
set_option maxRecDepth 20000 in
theorem ggX5_feesFor_X7_has : GoodIn wsX5_feesFor wsX7_has := goodIn_r _ [6, 7, 33, 34, 35, 36, 37, 38] (by decide +kernel) (by decide +kernel)
set_option maxRecDepth 20000 in
theorem gX5_feesFor_X7_has_n89 : GoodIn wsX5_feesFor (wsX7_has) := ggX5_feesFor_X7_has
set_option maxRecDepth 20000 in
theorem ggX5_feesFor_X7_isFree : GoodIn wsX5_feesFor wsX7_isFree := goodIn_r _ [10, 11, 12, 13, 3, 5, 4, 6, 7, 33, 34, 35, 36, 37, 38] (by decide +kernel) (by decide +kernel)
set_option maxRecDepth 20000 in
theorem gX5_feesFor_X7_isFree_n95 : GoodIn wsX5_feesFor (wsX7_isFree) := ggX5_feesFor_X7_isFree
set_option maxRecDepth 20000 in
theorem ggX5_feesFor_X5_lateFees : GoodIn wsX5_feesFor wsX5_lateFees := goodIn_r _ [18, 19, 20, 21, 22, 23, 24, 25, 26, 27, 28, 29, 30, 31, 32] (by decide +kernel) (by decide +kernel)
set_option maxRecDepth 20000 in
theorem gX5_feesFor_X5_lateFees : GoodIn wsX5_feesFor (wsV RX5 143 RX5 yX5_lateFees wsX5_lateFees) := goodIn_app (goodIn_of _ (by decide +kernel)) ggX5_feesFor_X5_lateFees
theorem dX5_feesFor_0 : decode cX5_feesFor 0 = .ok (.aload_n 0, 1) := by decide +kernel
theorem dX5_feesFor_1 : decode cX5_feesFor 1 = .ok (.getfield 12, 3) := by decide +kernel
theorem dX5_feesFor_4 : decode cX5_feesFor 4 = .ok (.iload_n 1, 1) := by decide +kernel
theorem dX5_feesFor_5 : decode cX5_feesFor 5 = .ok (.invokevirtual 89, 3) := by decide +kernel
theorem dX5_feesFor_8 : decode cX5_feesFor 8 = .ok (.ifCond .eq 14, 3) := by decide +kernel
theorem dX5_feesFor_11 : decode cX5_feesFor 11 = .ok (.aload_n 0, 1) := by decide +kernel
theorem dX5_feesFor_12 : decode cX5_feesFor 12 = .ok (.getfield 12, 3) := by decide +kernel
theorem dX5_feesFor_15 : decode cX5_feesFor 15 = .ok (.iload_n 1, 1) := by decide +kernel
theorem dX5_feesFor_16 : decode cX5_feesFor 16 = .ok (.invokevirtual 95, 3) := by decide +kernel
theorem dX5_feesFor_19 : decode cX5_feesFor 19 = .ok (.ifCond .eq 7, 3) := by decide +kernel
theorem dX5_feesFor_22 : decode cX5_feesFor 22 = .ok (.iconst 0, 1) := by decide +kernel
theorem dX5_feesFor_23 : decode cX5_feesFor 23 = .ok (.goto 22, 3) := by decide +kernel
theorem dX5_feesFor_26 : decode cX5_feesFor 26 = .ok (.aload_n 0, 1) := by decide +kernel
theorem dX5_feesFor_27 : decode cX5_feesFor 27 = .ok (.aload_n 0, 1) := by decide +kernel
theorem dX5_feesFor_28 : decode cX5_feesFor 28 = .ok (.getfield 12, 3) := by decide +kernel
theorem dX5_feesFor_31 : decode cX5_feesFor 31 = .ok (.getfield 104, 3) := by decide +kernel
theorem dX5_feesFor_34 : decode cX5_feesFor 34 = .ok (.iload_n 1, 1) := by decide +kernel
theorem dX5_feesFor_35 : decode cX5_feesFor 35 = .ok (.iaload, 1) := by decide +kernel
theorem dX5_feesFor_36 : decode cX5_feesFor 36 = .ok (.aload_n 0, 1) := by decide +kernel
theorem dX5_feesFor_37 : decode cX5_feesFor 37 = .ok (.getfield 56, 3) := by decide +kernel
theorem dX5_feesFor_40 : decode cX5_feesFor 40 = .ok (.iload_n 2, 1) := by decide +kernel
theorem dX5_feesFor_41 : decode cX5_feesFor 41 = .ok (.iadd, 1) := by decide +kernel
theorem dX5_feesFor_42 : decode cX5_feesFor 42 = .ok (.invokevirtual 143, 3) := by decide +kernel
theorem dX5_feesFor_45 : decode cX5_feesFor 45 = .ok (.ireturn, 1) := by decide +kernel
set_option maxRecDepth 20000 in
theorem ggX5_feesToPay_X5_feesFor : GoodIn wsX5_feesToPay wsX5_feesFor := goodIn_r _ [6, 1, 7, 8, 9, 10, 11, 12, 13, 14, 15, 16, 17, 18, 19, 20, 21, 5, 22, 23, 24, 25, 26, 27, 28, 29, 30, 31, 32, 33, 34, 35, 36, 37, 38, 39, 40, 41, 42] (by decide +kernel) (by decide +kernel)
set_option maxRecDepth 20000 in
theorem gX5_feesToPay_X5_feesFor : GoodIn wsX5_feesToPay (wsV RX5 107 RX5 yX5_feesFor wsX5_feesFor) := goodIn_app (goodIn_of _ (by decide +kernel)) ggX5_feesToPay_X5_feesFor
theorem dX5_feesToPay_0 : decode cX5_feesToPay 0 = .ok (.iconst 0, 1) := by decide +kernel
theorem dX5_feesToPay_1 : decode cX5_feesToPay 1 = .ok (.istore_n 3, 1) := by decide +kernel
theorem dX5_feesToPay_2 : decode cX5_feesToPay 2 = .ok (.iconst 0, 1) := by decide +kernel
theorem dX5_feesToPay_3 : decode cX5_feesToPay 3 = .ok (.istore 4, 2) := by decide +kernel
theorem dX5_feesToPay_5 : decode cX5_feesToPay 5 = .ok (.iload 4, 2) := by decide +kernel
theorem dX5_feesToPay_7 : decode cX5_feesToPay 7 = .ok (.aload_n 0, 1) := by decide +kernel
theorem dX5_feesToPay_8 : decode cX5_feesToPay 8 = .ok (.getfield 12, 3) := by decide +kernel
theorem dX5_feesToPay_11 : decode cX5_feesToPay 11 = .ok (.getfield 48, 3) := by decide +kernel
theorem dX5_feesToPay_14 : decode cX5_feesToPay 14 = .ok (.if_icmp .ge 56, 3) := by decide +kernel
theorem dX5_feesToPay_17 : decode cX5_feesToPay 17 = .ok (.aload_n 0, 1) := by decide +kernel
theorem dX5_feesToPay_18 : decode cX5_feesToPay 18 = .ok (.iload 4, 2) := by decide +kernel
theorem dX5_feesToPay_20 : decode cX5_feesToPay 20 = .ok (.iload_n 2, 1) := by decide +kernel
theorem dX5_feesToPay_21 : decode cX5_feesToPay 21 = .ok (.invokevirtual 107, 3) := by decide +kernel
theorem dX5_feesToPay_24 : decode cX5_feesToPay 24 = .ok (.istore 5, 2) := by decide +kernel
theorem dX5_feesToPay_26 : decode cX5_feesToPay 26 = .ok (.aload_n 0, 1) := by decide +kernel
theorem dX5_feesToPay_27 : decode cX5_feesToPay 27 = .ok (.getfield 12, 3) := by decide +kernel
theorem dX5_feesToPay_30 : decode cX5_feesToPay 30 = .ok (.getfield 101, 3) := by decide +kernel
theorem dX5_feesToPay_33 : decode cX5_feesToPay 33 = .ok (.iload 4, 2) := by decide +kernel
theorem dX5_feesToPay_35 : decode cX5_feesToPay 35 = .ok (.iaload, 1) := by decide +kernel
theorem dX5_feesToPay_36 : decode cX5_feesToPay 36 = .ok (.iload_n 1, 1) := by decide +kernel
theorem dX5_feesToPay_37 : decode cX5_feesToPay 37 = .ok (.if_icmp .ne 8, 3) := by decide +kernel
theorem dX5_feesToPay_40 : decode cX5_feesToPay 40 = .ok (.iload_n 3, 1) := by decide +kernel
theorem dX5_feesToPay_41 : decode cX5_feesToPay 41 = .ok (.iload 5, 2) := by decide +kernel
theorem dX5_feesToPay_43 : decode cX5_feesToPay 43 = .ok (.iadd, 1) := by decide +kernel
theorem dX5_feesToPay_44 : decode cX5_feesToPay 44 = .ok (.istore_n 3, 1) := by decide +kernel
theorem dX5_feesToPay_45 : decode cX5_feesToPay 45 = .ok (.aload_n 0, 1) := by decide +kernel
theorem dX5_feesToPay_46 : decode cX5_feesToPay 46 = .ok (.getfield 12, 3) := by decide +kernel
theorem dX5_feesToPay_49 : decode cX5_feesToPay 49 = .ok (.getfield 98, 3) := by decide +kernel
theorem dX5_feesToPay_52 : decode cX5_feesToPay 52 = .ok (.iload 4, 2) := by decide +kernel
theorem dX5_feesToPay_54 : decode cX5_feesToPay 54 = .ok (.iaload, 1) := by decide +kernel
theorem dX5_feesToPay_55 : decode cX5_feesToPay 55 = .ok (.iload_n 1, 1) := by decide +kernel
theorem dX5_feesToPay_56 : decode cX5_feesToPay 56 = .ok (.if_icmp .ne 8, 3) := by decide +kernel
theorem dX5_feesToPay_59 : decode cX5_feesToPay 59 = .ok (.iload_n 3, 1) := by decide +kernel
theorem dX5_feesToPay_60 : decode cX5_feesToPay 60 = .ok (.iload 5, 2) := by decide +kernel
theorem dX5_feesToPay_62 : decode cX5_feesToPay 62 = .ok (.isub, 1) := by decide +kernel
theorem dX5_feesToPay_63 : decode cX5_feesToPay 63 = .ok (.istore_n 3, 1) := by decide +kernel
theorem dX5_feesToPay_64 : decode cX5_feesToPay 64 = .ok (.iinc 4 1, 3) := by decide +kernel
theorem dX5_feesToPay_67 : decode cX5_feesToPay 67 = .ok (.goto (-62), 3) := by decide +kernel
theorem dX5_feesToPay_70 : decode cX5_feesToPay 70 = .ok (.iload_n 3, 1) := by decide +kernel
theorem dX5_feesToPay_71 : decode cX5_feesToPay 71 = .ok (.ireturn, 1) := by decide +kernel
set_option maxRecDepth 20000 in
theorem ggX5_cheapestCore_X7_isFreeCore : GoodIn wsX5_cheapestCore wsX7_isFreeCore := goodIn_r _ [5, 6, 7, 8, 9, 3, 10, 11, 12, 13, 14, 15, 16, 47, 48, 49, 50, 51, 52] (by decide +kernel) (by decide +kernel)
set_option maxRecDepth 20000 in
theorem gX5_cheapestCore_X7_isFreeCore_n119 : GoodIn wsX5_cheapestCore (wsX7_isFreeCore) := ggX5_cheapestCore_X7_isFreeCore
set_option maxRecDepth 20000 in
theorem ggX5_cheapestCore_X7_isOfKindAt : GoodIn wsX5_cheapestCore wsX7_isOfKindAt := goodIn_r _ [19, 20, 11, 12, 13, 14, 3, 15, 16, 47, 48, 49, 50, 51, 52] (by decide +kernel) (by decide +kernel)
set_option maxRecDepth 20000 in
theorem gX5_cheapestCore_X7_isOfKindAt_n152 : GoodIn wsX5_cheapestCore (wsX7_isOfKindAt) := ggX5_cheapestCore_X7_isOfKindAt
set_option maxRecDepth 20000 in
theorem ggX5_cheapestCore_X5_priceForCore : GoodIn wsX5_cheapestCore wsX5_priceForCore := goodIn_r _ [25, 26, 1, 27, 3, 28, 29, 30, 12, 13, 14, 15, 16, 31, 32, 33, 34, 35, 36, 37, 38, 39, 40, 41, 42, 43, 44, 45, 46, 47, 48, 49, 50, 51, 52] (by decide +kernel) (by decide +kernel)
set_option maxRecDepth 20000 in
theorem gX5_cheapestCore_X5_priceForCore : GoodIn wsX5_cheapestCore (wsV RX5 128 RX5 yX5_priceForCore wsX5_priceForCore) := goodIn_app (goodIn_of _ (by decide +kernel)) ggX5_cheapestCore_X5_priceForCore
theorem dX5_cheapestCore_0 : decode cX5_cheapestCore 0 = .ok (.iconst (-1), 1) := by decide +kernel
theorem dX5_cheapestCore_1 : decode cX5_cheapestCore 1 = .ok (.istore_n 3, 1) := by decide +kernel
theorem dX5_cheapestCore_2 : decode cX5_cheapestCore 2 = .ok (.iconst 0, 1) := by decide +kernel
theorem dX5_cheapestCore_3 : decode cX5_cheapestCore 3 = .ok (.istore 4, 2) := by decide +kernel
theorem dX5_cheapestCore_5 : decode cX5_cheapestCore 5 = .ok (.iload 4, 2) := by decide +kernel
theorem dX5_cheapestCore_7 : decode cX5_cheapestCore 7 = .ok (.aload_n 0, 1) := by decide +kernel
theorem dX5_cheapestCore_8 : decode cX5_cheapestCore 8 = .ok (.getfield 12, 3) := by decide +kernel
theorem dX5_cheapestCore_11 : decode cX5_cheapestCore 11 = .ok (.getfield 48, 3) := by decide +kernel
theorem dX5_cheapestCore_14 : decode cX5_cheapestCore 14 = .ok (.if_icmp .ge 57, 3) := by decide +kernel
theorem dX5_cheapestCore_17 : decode cX5_cheapestCore 17 = .ok (.aload_n 0, 1) := by decide +kernel
theorem dX5_cheapestCore_18 : decode cX5_cheapestCore 18 = .ok (.getfield 12, 3) := by decide +kernel
theorem dX5_cheapestCore_21 : decode cX5_cheapestCore 21 = .ok (.iload 4, 2) := by decide +kernel
theorem dX5_cheapestCore_23 : decode cX5_cheapestCore 23 = .ok (.invokevirtual 119, 3) := by decide +kernel
theorem dX5_cheapestCore_26 : decode cX5_cheapestCore 26 = .ok (.ifCond .eq 39, 3) := by decide +kernel
theorem dX5_cheapestCore_29 : decode cX5_cheapestCore 29 = .ok (.aload_n 0, 1) := by decide +kernel
theorem dX5_cheapestCore_30 : decode cX5_cheapestCore 30 = .ok (.getfield 12, 3) := by decide +kernel
theorem dX5_cheapestCore_33 : decode cX5_cheapestCore 33 = .ok (.iload 4, 2) := by decide +kernel
theorem dX5_cheapestCore_35 : decode cX5_cheapestCore 35 = .ok (.iload_n 2, 1) := by decide +kernel
theorem dX5_cheapestCore_36 : decode cX5_cheapestCore 36 = .ok (.iload_n 1, 1) := by decide +kernel
theorem dX5_cheapestCore_37 : decode cX5_cheapestCore 37 = .ok (.invokevirtual 152, 3) := by decide +kernel
theorem dX5_cheapestCore_40 : decode cX5_cheapestCore 40 = .ok (.ifCond .eq 25, 3) := by decide +kernel
theorem dX5_cheapestCore_43 : decode cX5_cheapestCore 43 = .ok (.iload_n 3, 1) := by decide +kernel
theorem dX5_cheapestCore_44 : decode cX5_cheapestCore 44 = .ok (.iconst (-1), 1) := by decide +kernel
theorem dX5_cheapestCore_45 : decode cX5_cheapestCore 45 = .ok (.if_icmp .eq 17, 3) := by decide +kernel
theorem dX5_cheapestCore_48 : decode cX5_cheapestCore 48 = .ok (.aload_n 0, 1) := by decide +kernel
theorem dX5_cheapestCore_49 : decode cX5_cheapestCore 49 = .ok (.iload 4, 2) := by decide +kernel
theorem dX5_cheapestCore_51 : decode cX5_cheapestCore 51 = .ok (.invokevirtual 128, 3) := by decide +kernel
theorem dX5_cheapestCore_54 : decode cX5_cheapestCore 54 = .ok (.aload_n 0, 1) := by decide +kernel
theorem dX5_cheapestCore_55 : decode cX5_cheapestCore 55 = .ok (.iload_n 3, 1) := by decide +kernel
theorem dX5_cheapestCore_56 : decode cX5_cheapestCore 56 = .ok (.invokevirtual 128, 3) := by decide +kernel
theorem dX5_cheapestCore_59 : decode cX5_cheapestCore 59 = .ok (.if_icmp .ge 6, 3) := by decide +kernel
theorem dX5_cheapestCore_62 : decode cX5_cheapestCore 62 = .ok (.iload 4, 2) := by decide +kernel
theorem dX5_cheapestCore_64 : decode cX5_cheapestCore 64 = .ok (.istore_n 3, 1) := by decide +kernel
theorem dX5_cheapestCore_65 : decode cX5_cheapestCore 65 = .ok (.iinc 4 1, 3) := by decide +kernel
theorem dX5_cheapestCore_68 : decode cX5_cheapestCore 68 = .ok (.goto (-63), 3) := by decide +kernel
theorem dX5_cheapestCore_71 : decode cX5_cheapestCore 71 = .ok (.iload_n 3, 1) := by decide +kernel
theorem dX5_cheapestCore_72 : decode cX5_cheapestCore 72 = .ok (.ireturn, 1) := by decide +kernel
set_option maxRecDepth 20000 in
theorem ggX5_accountWhenAllIsSettled_X8_isHolder : GoodIn wsX5_accountWhenAllIsSettled wsX8_isHolder := goodIn_r _ [6] (by decide +kernel) (by decide +kernel)
set_option maxRecDepth 20000 in
theorem gX5_accountWhenAllIsSettled_X8_isHolder_n82 : GoodIn wsX5_accountWhenAllIsSettled (wsX8_isHolder) := ggX5_accountWhenAllIsSettled_X8_isHolder
set_option maxRecDepth 20000 in
theorem ggX5_accountWhenAllIsSettled_X1_owedBy : GoodIn wsX5_accountWhenAllIsSettled wsX1_owedBy := goodIn_r _ [10, 11, 12, 13, 8, 14, 15, 4, 5, 6, 58] (by decide +kernel) (by decide +kernel)
set_option maxRecDepth 20000 in
theorem gX5_accountWhenAllIsSettled_X1_owedBy_n188 : GoodIn wsX5_accountWhenAllIsSettled (wsX1_owedBy) := ggX5_accountWhenAllIsSettled_X1_owedBy
set_option maxRecDepth 20000 in
theorem ggX5_accountWhenAllIsSettled_X1_owedTo : GoodIn wsX5_accountWhenAllIsSettled wsX1_owedTo := goodIn_r _ [18, 11, 12, 13, 8, 14, 15, 4, 5, 6, 58] (by decide +kernel) (by decide +kernel)
set_option maxRecDepth 20000 in
theorem gX5_accountWhenAllIsSettled_X1_owedTo_n191 : GoodIn wsX5_accountWhenAllIsSettled (wsX1_owedTo) := ggX5_accountWhenAllIsSettled_X1_owedTo
set_option maxRecDepth 20000 in
theorem ggX5_accountWhenAllIsSettled_X5_feesToPay : GoodIn wsX5_accountWhenAllIsSettled wsX5_feesToPay := goodIn_r _ [23, 24, 25, 26, 27, 22, 28, 29, 30, 31, 32, 33, 34, 35, 36, 37, 38, 39, 40, 41, 42, 43, 44, 3, 45, 46, 47, 48, 49, 50, 51, 52, 53, 54, 55, 56, 57, 59, 60, 61, 62, 63, 64] (by decide +kernel) (by decide +kernel)
set_option maxRecDepth 20000 in
theorem gX5_accountWhenAllIsSettled_X5_feesToPay : GoodIn wsX5_accountWhenAllIsSettled (wsV RX5 194 RX5 yX5_feesToPay wsX5_feesToPay) := goodIn_app (goodIn_of _ (by decide +kernel)) ggX5_accountWhenAllIsSettled_X5_feesToPay
theorem dX5_accountWhenAllIsSettled_0 : decode cX5_accountWhenAllIsSettled 0 = .ok (.iload_n 1, 1) := by decide +kernel
theorem dX5_accountWhenAllIsSettled_1 : decode cX5_accountWhenAllIsSettled 1 = .ok (.invokestatic 82, 3) := by decide +kernel
theorem dX5_accountWhenAllIsSettled_4 : decode cX5_accountWhenAllIsSettled 4 = .ok (.ifCond .ne 5, 3) := by decide +kernel
theorem dX5_accountWhenAllIsSettled_7 : decode cX5_accountWhenAllIsSettled 7 = .ok (.iconst 0, 1) := by decide +kernel
theorem dX5_accountWhenAllIsSettled_8 : decode cX5_accountWhenAllIsSettled 8 = .ok (.ireturn, 1) := by decide +kernel
theorem dX5_accountWhenAllIsSettled_9 : decode cX5_accountWhenAllIsSettled 9 = .ok (.aload_n 0, 1) := by decide +kernel
theorem dX5_accountWhenAllIsSettled_10 : decode cX5_accountWhenAllIsSettled 10 = .ok (.getfield 28, 3) := by decide +kernel
theorem dX5_accountWhenAllIsSettled_13 : decode cX5_accountWhenAllIsSettled 13 = .ok (.iload_n 1, 1) := by decide +kernel
theorem dX5_accountWhenAllIsSettled_14 : decode cX5_accountWhenAllIsSettled 14 = .ok (.invokevirtual 188, 3) := by decide +kernel
theorem dX5_accountWhenAllIsSettled_17 : decode cX5_accountWhenAllIsSettled 17 = .ok (.aload_n 0, 1) := by decide +kernel
theorem dX5_accountWhenAllIsSettled_18 : decode cX5_accountWhenAllIsSettled 18 = .ok (.getfield 28, 3) := by decide +kernel
theorem dX5_accountWhenAllIsSettled_21 : decode cX5_accountWhenAllIsSettled 21 = .ok (.iload_n 1, 1) := by decide +kernel
theorem dX5_accountWhenAllIsSettled_22 : decode cX5_accountWhenAllIsSettled 22 = .ok (.invokevirtual 191, 3) := by decide +kernel
theorem dX5_accountWhenAllIsSettled_25 : decode cX5_accountWhenAllIsSettled 25 = .ok (.isub, 1) := by decide +kernel
theorem dX5_accountWhenAllIsSettled_26 : decode cX5_accountWhenAllIsSettled 26 = .ok (.istore_n 2, 1) := by decide +kernel
theorem dX5_accountWhenAllIsSettled_27 : decode cX5_accountWhenAllIsSettled 27 = .ok (.aload_n 0, 1) := by decide +kernel
theorem dX5_accountWhenAllIsSettled_28 : decode cX5_accountWhenAllIsSettled 28 = .ok (.getfield 32, 3) := by decide +kernel
theorem dX5_accountWhenAllIsSettled_31 : decode cX5_accountWhenAllIsSettled 31 = .ok (.iload_n 1, 1) := by decide +kernel
theorem dX5_accountWhenAllIsSettled_32 : decode cX5_accountWhenAllIsSettled 32 = .ok (.iaload, 1) := by decide +kernel
theorem dX5_accountWhenAllIsSettled_33 : decode cX5_accountWhenAllIsSettled 33 = .ok (.aload_n 0, 1) := by decide +kernel
theorem dX5_accountWhenAllIsSettled_34 : decode cX5_accountWhenAllIsSettled 34 = .ok (.iload_n 1, 1) := by decide +kernel
theorem dX5_accountWhenAllIsSettled_35 : decode cX5_accountWhenAllIsSettled 35 = .ok (.iconst 0, 1) := by decide +kernel
theorem dX5_accountWhenAllIsSettled_36 : decode cX5_accountWhenAllIsSettled 36 = .ok (.invokevirtual 194, 3) := by decide +kernel
theorem dX5_accountWhenAllIsSettled_39 : decode cX5_accountWhenAllIsSettled 39 = .ok (.isub, 1) := by decide +kernel
theorem dX5_accountWhenAllIsSettled_40 : decode cX5_accountWhenAllIsSettled 40 = .ok (.aload_n 0, 1) := by decide +kernel
theorem dX5_accountWhenAllIsSettled_41 : decode cX5_accountWhenAllIsSettled 41 = .ok (.getfield 36, 3) := by decide +kernel
theorem dX5_accountWhenAllIsSettled_44 : decode cX5_accountWhenAllIsSettled 44 = .ok (.iconst 2, 1) := by decide +kernel
theorem dX5_accountWhenAllIsSettled_45 : decode cX5_accountWhenAllIsSettled 45 = .ok (.iaload, 1) := by decide +kernel
theorem dX5_accountWhenAllIsSettled_46 : decode cX5_accountWhenAllIsSettled 46 = .ok (.iload_n 2, 1) := by decide +kernel
theorem dX5_accountWhenAllIsSettled_47 : decode cX5_accountWhenAllIsSettled 47 = .ok (.imul, 1) := by decide +kernel
theorem dX5_accountWhenAllIsSettled_48 : decode cX5_accountWhenAllIsSettled 48 = .ok (.isub, 1) := by decide +kernel
theorem dX5_accountWhenAllIsSettled_49 : decode cX5_accountWhenAllIsSettled 49 = .ok (.ireturn, 1) := by decide +kernel
