theorem dX7_init_0 : decode cX7_init 0 = .ok (.aload_n 0, 1) := by decide +kernel
theorem dX7_init_1 : decode cX7_init 1 = .ok (.invokespecial 3, 3) := by decide +kernel
theorem dX7_init_4 : decode cX7_init 4 = .ok (.aload_n 0, 1) := by decide +kernel
theorem dX7_init_5 : decode cX7_init 5 = .ok (.bipush 16, 2) := by decide +kernel
theorem dX7_init_7 : decode cX7_init 7 = .ok (.newarray .int, 2) := by decide +kernel
theorem dX7_init_9 : decode cX7_init 9 = .ok (.putfield 9, 3) := by decide +kernel
theorem dX7_init_12 : decode cX7_init 12 = .ok (.aload_n 0, 1) := by decide +kernel
theorem dX7_init_13 : decode cX7_init 13 = .ok (.bipush 16, 2) := by decide +kernel
theorem dX7_init_15 : decode cX7_init 15 = .ok (.newarray .int, 2) := by decide +kernel
theorem dX7_init_17 : decode cX7_init 17 = .ok (.putfield 15, 3) := by decide +kernel
theorem dX7_init_20 : decode cX7_init 20 = .ok (.aload_n 0, 1) := by decide +kernel
theorem dX7_init_21 : decode cX7_init 21 = .ok (.bipush 16, 2) := by decide +kernel
theorem dX7_init_23 : decode cX7_init 23 = .ok (.newarray .int, 2) := by decide +kernel
theorem dX7_init_25 : decode cX7_init 25 = .ok (.putfield 18, 3) := by decide +kernel
theorem dX7_init_28 : decode cX7_init 28 = .ok (.aload_n 0, 1) := by decide +kernel
theorem dX7_init_29 : decode cX7_init 29 = .ok (.bipush 16, 2) := by decide +kernel
theorem dX7_init_31 : decode cX7_init 31 = .ok (.newarray .int, 2) := by decide +kernel
theorem dX7_init_33 : decode cX7_init 33 = .ok (.putfield 21, 3) := by decide +kernel
theorem dX7_init_36 : decode cX7_init 36 = .ok (.aload_n 0, 1) := by decide +kernel
theorem dX7_init_37 : decode cX7_init 37 = .ok (.bipush 16, 2) := by decide +kernel
theorem dX7_init_39 : decode cX7_init 39 = .ok (.newarray .int, 2) := by decide +kernel
theorem dX7_init_41 : decode cX7_init 41 = .ok (.putfield 24, 3) := by decide +kernel
theorem dX7_init_44 : decode cX7_init 44 = .ok (.return_, 1) := by decide +kernel
theorem dX7_copyFrom_0 : decode cX7_copyFrom 0 = .ok (.aload_n 1, 1) := by decide +kernel
theorem dX7_copyFrom_1 : decode cX7_copyFrom 1 = .ok (.getfield 9, 3) := by decide +kernel
theorem dX7_copyFrom_4 : decode cX7_copyFrom 4 = .ok (.iconst 0, 1) := by decide +kernel
theorem dX7_copyFrom_5 : decode cX7_copyFrom 5 = .ok (.aload_n 0, 1) := by decide +kernel
theorem dX7_copyFrom_6 : decode cX7_copyFrom 6 = .ok (.getfield 9, 3) := by decide +kernel
theorem dX7_copyFrom_9 : decode cX7_copyFrom 9 = .ok (.iconst 0, 1) := by decide +kernel
theorem dX7_copyFrom_10 : decode cX7_copyFrom 10 = .ok (.bipush 16, 2) := by decide +kernel
theorem dX7_copyFrom_12 : decode cX7_copyFrom 12 = .ok (.invokestatic 27, 3) := by decide +kernel
theorem dX7_copyFrom_15 : decode cX7_copyFrom 15 = .ok (.aload_n 1, 1) := by decide +kernel
theorem dX7_copyFrom_16 : decode cX7_copyFrom 16 = .ok (.getfield 15, 3) := by decide +kernel
theorem dX7_copyFrom_19 : decode cX7_copyFrom 19 = .ok (.iconst 0, 1) := by decide +kernel
theorem dX7_copyFrom_20 : decode cX7_copyFrom 20 = .ok (.aload_n 0, 1) := by decide +kernel
theorem dX7_copyFrom_21 : decode cX7_copyFrom 21 = .ok (.getfield 15, 3) := by decide +kernel
theorem dX7_copyFrom_24 : decode cX7_copyFrom 24 = .ok (.iconst 0, 1) := by decide +kernel
theorem dX7_copyFrom_25 : decode cX7_copyFrom 25 = .ok (.bipush 16, 2) := by decide +kernel
theorem dX7_copyFrom_27 : decode cX7_copyFrom 27 = .ok (.invokestatic 27, 3) := by decide +kernel
theorem dX7_copyFrom_30 : decode cX7_copyFrom 30 = .ok (.aload_n 1, 1) := by decide +kernel
theorem dX7_copyFrom_31 : decode cX7_copyFrom 31 = .ok (.getfield 18, 3) := by decide +kernel
theorem dX7_copyFrom_34 : decode cX7_copyFrom 34 = .ok (.iconst 0, 1) := by decide +kernel
theorem dX7_copyFrom_35 : decode cX7_copyFrom 35 = .ok (.aload_n 0, 1) := by decide +kernel
theorem dX7_copyFrom_36 : decode cX7_copyFrom 36 = .ok (.getfield 18, 3) := by decide +kernel
theorem dX7_copyFrom_39 : decode cX7_copyFrom 39 = .ok (.iconst 0, 1) := by decide +kernel
theorem dX7_copyFrom_40 : decode cX7_copyFrom 40 = .ok (.bipush 16, 2) := by decide +kernel
theorem dX7_copyFrom_42 : decode cX7_copyFrom 42 = .ok (.invokestatic 27, 3) := by decide +kernel
theorem dX7_copyFrom_45 : decode cX7_copyFrom 45 = .ok (.aload_n 1, 1) := by decide +kernel
theorem dX7_copyFrom_46 : decode cX7_copyFrom 46 = .ok (.getfield 21, 3) := by decide +kernel
theorem dX7_copyFrom_49 : decode cX7_copyFrom 49 = .ok (.iconst 0, 1) := by decide +kernel
theorem dX7_copyFrom_50 : decode cX7_copyFrom 50 = .ok (.aload_n 0, 1) := by decide +kernel
theorem dX7_copyFrom_51 : decode cX7_copyFrom 51 = .ok (.getfield 21, 3) := by decide +kernel
theorem dX7_copyFrom_54 : decode cX7_copyFrom 54 = .ok (.iconst 0, 1) := by decide +kernel
theorem dX7_copyFrom_55 : decode cX7_copyFrom 55 = .ok (.bipush 16, 2) := by decide +kernel
theorem dX7_copyFrom_57 : decode cX7_copyFrom 57 = .ok (.invokestatic 27, 3) := by decide +kernel
theorem dX7_copyFrom_60 : decode cX7_copyFrom 60 = .ok (.aload_n 1, 1) := by decide +kernel
theorem dX7_copyFrom_61 : decode cX7_copyFrom 61 = .ok (.getfield 24, 3) := by decide +kernel
theorem dX7_copyFrom_64 : decode cX7_copyFrom 64 = .ok (.iconst 0, 1) := by decide +kernel
theorem dX7_copyFrom_65 : decode cX7_copyFrom 65 = .ok (.aload_n 0, 1) := by decide +kernel
theorem dX7_copyFrom_66 : decode cX7_copyFrom 66 = .ok (.getfield 24, 3) := by decide +kernel
theorem dX7_copyFrom_69 : decode cX7_copyFrom 69 = .ok (.iconst 0, 1) := by decide +kernel
theorem dX7_copyFrom_70 : decode cX7_copyFrom 70 = .ok (.bipush 16, 2) := by decide +kernel
theorem dX7_copyFrom_72 : decode cX7_copyFrom 72 = .ok (.invokestatic 27, 3) := by decide +kernel
theorem dX7_copyFrom_75 : decode cX7_copyFrom 75 = .ok (.aload_n 0, 1) := by decide +kernel
theorem dX7_copyFrom_76 : decode cX7_copyFrom 76 = .ok (.aload_n 1, 1) := by decide +kernel
theorem dX7_copyFrom_77 : decode cX7_copyFrom 77 = .ok (.getfield 33, 3) := by decide +kernel
theorem dX7_copyFrom_80 : decode cX7_copyFrom 80 = .ok (.putfield 33, 3) := by decide +kernel
theorem dX7_copyFrom_83 : decode cX7_copyFrom 83 = .ok (.return_, 1) := by decide +kernel
theorem dX7_has_0 : decode cX7_has 0 = .ok (.iload_n 1, 1) := by decide +kernel
theorem dX7_has_1 : decode cX7_has 1 = .ok (.ifCond .lt 15, 3) := by decide +kernel
theorem dX7_has_4 : decode cX7_has 4 = .ok (.iload_n 1, 1) := by decide +kernel
theorem dX7_has_5 : decode cX7_has 5 = .ok (.aload_n 0, 1) := by decide +kernel
theorem dX7_has_6 : decode cX7_has 6 = .ok (.getfield 33, 3) := by decide +kernel
theorem dX7_has_9 : decode cX7_has 9 = .ok (.if_icmp .ge 7, 3) := by decide +kernel
theorem dX7_has_12 : decode cX7_has 12 = .ok (.iconst 1, 1) := by decide +kernel
theorem dX7_has_13 : decode cX7_has 13 = .ok (.goto 4, 3) := by decide +kernel
theorem dX7_has_16 : decode cX7_has 16 = .ok (.iconst 0, 1) := by decide +kernel
theorem dX7_has_17 : decode cX7_has 17 = .ok (.ireturn, 1) := by decide +kernel
set_option maxRecDepth 20000 in
theorem ggX7_add_X7_giveTo : GoodIn wsX7_add wsX7_giveTo := goodIn_r _ [8, 9, 10, 11, 12, 13, 14, 7, 15, 1, 16, 17, 18, 19, 20, 21] (by decide +kernel) (by decide +kernel)
set_option maxRecDepth 20000 in
theorem gX7_add_X7_giveTo : GoodIn wsX7_add (wsV RX7 37 RX7 yX7_giveTo wsX7_giveTo) := goodIn_app (goodIn_of _ (by decide +kernel)) ggX7_add_X7_giveTo
theorem dX7_add_0 : decode cX7_add 0 = .ok (.aload_n 0, 1) := by decide +kernel
theorem dX7_add_1 : decode cX7_add 1 = .ok (.getfield 33, 3) := by decide +kernel
theorem dX7_add_4 : decode cX7_add 4 = .ok (.istore 4, 2) := by decide +kernel
theorem dX7_add_6 : decode cX7_add 6 = .ok (.iload 4, 2) := by decide +kernel
theorem dX7_add_8 : decode cX7_add 8 = .ok (.bipush 16, 2) := by decide +kernel
theorem dX7_add_10 : decode cX7_add 10 = .ok (.if_icmp .lt 5, 3) := by decide +kernel
theorem dX7_add_13 : decode cX7_add 13 = .ok (.iconst (-1), 1) := by decide +kernel
theorem dX7_add_14 : decode cX7_add 14 = .ok (.ireturn, 1) := by decide +kernel
theorem dX7_add_15 : decode cX7_add 15 = .ok (.aload_n 0, 1) := by decide +kernel
theorem dX7_add_16 : decode cX7_add 16 = .ok (.getfield 9, 3) := by decide +kernel
theorem dX7_add_19 : decode cX7_add 19 = .ok (.iload 4, 2) := by decide +kernel
theorem dX7_add_21 : decode cX7_add 21 = .ok (.iload_n 1, 1) := by decide +kernel
theorem dX7_add_22 : decode cX7_add 22 = .ok (.iastore, 1) := by decide +kernel
theorem dX7_add_23 : decode cX7_add 23 = .ok (.aload_n 0, 1) := by decide +kernel
theorem dX7_add_24 : decode cX7_add 24 = .ok (.getfield 21, 3) := by decide +kernel
theorem dX7_add_27 : decode cX7_add 27 = .ok (.iload 4, 2) := by decide +kernel
theorem dX7_add_29 : decode cX7_add 29 = .ok (.iload_n 3, 1) := by decide +kernel
theorem dX7_add_30 : decode cX7_add 30 = .ok (.iastore, 1) := by decide +kernel
theorem dX7_add_31 : decode cX7_add 31 = .ok (.aload_n 0, 1) := by decide +kernel
theorem dX7_add_32 : decode cX7_add 32 = .ok (.dup, 1) := by decide +kernel
theorem dX7_add_33 : decode cX7_add 33 = .ok (.getfield 33, 3) := by decide +kernel
theorem dX7_add_36 : decode cX7_add 36 = .ok (.iconst 1, 1) := by decide +kernel
theorem dX7_add_37 : decode cX7_add 37 = .ok (.iadd, 1) := by decide +kernel
theorem dX7_add_38 : decode cX7_add 38 = .ok (.putfield 33, 3) := by decide +kernel
theorem dX7_add_41 : decode cX7_add 41 = .ok (.aload_n 0, 1) := by decide +kernel
theorem dX7_add_42 : decode cX7_add 42 = .ok (.iload 4, 2) := by decide +kernel
theorem dX7_add_44 : decode cX7_add 44 = .ok (.iload_n 2, 1) := by decide +kernel
theorem dX7_add_45 : decode cX7_add 45 = .ok (.invokevirtual 37, 3) := by decide +kernel
theorem dX7_add_48 : decode cX7_add 48 = .ok (.iload 4, 2) := by decide +kernel
theorem dX7_add_50 : decode cX7_add 50 = .ok (.ireturn, 1) := by decide +kernel
set_option maxRecDepth 20000 in
theorem ggX7_giveTo_X7_has : GoodIn wsX7_giveTo wsX7_has := goodIn_r _ [8, 9, 10, 11, 12, 13, 14, 15] (by decide +kernel) (by decide +kernel)
set_option maxRecDepth 20000 in
theorem gX7_giveTo_X7_has : GoodIn wsX7_giveTo (wsV RX7 41 RX7 yX7_has wsX7_has) := goodIn_app (goodIn_of _ (by decide +kernel)) ggX7_giveTo_X7_has
theorem dX7_giveTo_0 : decode cX7_giveTo 0 = .ok (.aload_n 0, 1) := by decide +kernel
theorem dX7_giveTo_1 : decode cX7_giveTo 1 = .ok (.iload_n 1, 1) := by decide +kernel
theorem dX7_giveTo_2 : decode cX7_giveTo 2 = .ok (.invokevirtual 41, 3) := by decide +kernel
theorem dX7_giveTo_5 : decode cX7_giveTo 5 = .ok (.ifCond .eq 24, 3) := by decide +kernel
theorem dX7_giveTo_8 : decode cX7_giveTo 8 = .ok (.aload_n 0, 1) := by decide +kernel
theorem dX7_giveTo_9 : decode cX7_giveTo 9 = .ok (.getfield 15, 3) := by decide +kernel
theorem dX7_giveTo_12 : decode cX7_giveTo 12 = .ok (.iload_n 1, 1) := by decide +kernel
theorem dX7_giveTo_13 : decode cX7_giveTo 13 = .ok (.iload_n 2, 1) := by decide +kernel
theorem dX7_giveTo_14 : decode cX7_giveTo 14 = .ok (.iastore, 1) := by decide +kernel
theorem dX7_giveTo_15 : decode cX7_giveTo 15 = .ok (.aload_n 0, 1) := by decide +kernel
theorem dX7_giveTo_16 : decode cX7_giveTo 16 = .ok (.getfield 18, 3) := by decide +kernel
theorem dX7_giveTo_19 : decode cX7_giveTo 19 = .ok (.iload_n 1, 1) := by decide +kernel
theorem dX7_giveTo_20 : decode cX7_giveTo 20 = .ok (.iload_n 2, 1) := by decide +kernel
theorem dX7_giveTo_21 : decode cX7_giveTo 21 = .ok (.iastore, 1) := by decide +kernel
theorem dX7_giveTo_22 : decode cX7_giveTo 22 = .ok (.aload_n 0, 1) := by decide +kernel
theorem dX7_giveTo_23 : decode cX7_giveTo 23 = .ok (.getfield 24, 3) := by decide +kernel
theorem dX7_giveTo_26 : decode cX7_giveTo 26 = .ok (.iload_n 1, 1) := by decide +kernel
theorem dX7_giveTo_27 : decode cX7_giveTo 27 = .ok (.iconst (-1), 1) := by decide +kernel
theorem dX7_giveTo_28 : decode cX7_giveTo 28 = .ok (.iastore, 1) := by decide +kernel
theorem dX7_giveTo_29 : decode cX7_giveTo 29 = .ok (.return_, 1) := by decide +kernel
set_option maxRecDepth 20000 in
theorem ggX7_isFree_X7_has : GoodIn wsX7_isFree wsX7_has := goodIn_r _ [7, 8, 9, 10, 11, 12, 13, 14] (by decide +kernel) (by decide +kernel)
set_option maxRecDepth 20000 in
theorem gX7_isFree_X7_has : GoodIn wsX7_isFree (wsV RX7 41 RX7 yX7_has wsX7_has) := goodIn_app (goodIn_of _ (by decide +kernel)) ggX7_isFree_X7_has
theorem dX7_isFree_0 : decode cX7_isFree 0 = .ok (.aload_n 0, 1) := by decide +kernel
theorem dX7_isFree_1 : decode cX7_isFree 1 = .ok (.iload_n 1, 1) := by decide +kernel
theorem dX7_isFree_2 : decode cX7_isFree 2 = .ok (.invokevirtual 41, 3) := by decide +kernel
theorem dX7_isFree_5 : decode cX7_isFree 5 = .ok (.ifCond .eq 22, 3) := by decide +kernel
theorem dX7_isFree_8 : decode cX7_isFree 8 = .ok (.aload_n 0, 1) := by decide +kernel
theorem dX7_isFree_9 : decode cX7_isFree 9 = .ok (.getfield 18, 3) := by decide +kernel
theorem dX7_isFree_12 : decode cX7_isFree 12 = .ok (.iload_n 1, 1) := by decide +kernel
theorem dX7_isFree_13 : decode cX7_isFree 13 = .ok (.iaload, 1) := by decide +kernel
theorem dX7_isFree_14 : decode cX7_isFree 14 = .ok (.aload_n 0, 1) := by decide +kernel
theorem dX7_isFree_15 : decode cX7_isFree 15 = .ok (.getfield 15, 3) := by decide +kernel
theorem dX7_isFree_18 : decode cX7_isFree 18 = .ok (.iload_n 1, 1) := by decide +kernel
theorem dX7_isFree_19 : decode cX7_isFree 19 = .ok (.iaload, 1) := by decide +kernel
theorem dX7_isFree_20 : decode cX7_isFree 20 = .ok (.if_icmp .ne 7, 3) := by decide +kernel
theorem dX7_isFree_23 : decode cX7_isFree 23 = .ok (.iconst 1, 1) := by decide +kernel
theorem dX7_isFree_24 : decode cX7_isFree 24 = .ok (.goto 4, 3) := by decide +kernel
theorem dX7_isFree_27 : decode cX7_isFree 27 = .ok (.iconst 0, 1) := by decide +kernel
theorem dX7_isFree_28 : decode cX7_isFree 28 = .ok (.ireturn, 1) := by decide +kernel
set_option maxRecDepth 20000 in
theorem ggX7_isUsable_X7_has : GoodIn wsX7_isUsable wsX7_has := goodIn_r _ [6, 7, 8, 9, 10, 11, 12, 13] (by decide +kernel) (by decide +kernel)
set_option maxRecDepth 20000 in
theorem gX7_isUsable_X7_has : GoodIn wsX7_isUsable (wsV RX7 41 RX7 yX7_has wsX7_has) := goodIn_app (goodIn_of _ (by decide +kernel)) ggX7_isUsable_X7_has
theorem dX7_isUsable_0 : decode cX7_isUsable 0 = .ok (.aload_n 0, 1) := by decide +kernel
theorem dX7_isUsable_1 : decode cX7_isUsable 1 = .ok (.iload_n 1, 1) := by decide +kernel
theorem dX7_isUsable_2 : decode cX7_isUsable 2 = .ok (.invokevirtual 41, 3) := by decide +kernel
theorem dX7_isUsable_5 : decode cX7_isUsable 5 = .ok (.ifCond .eq 18, 3) := by decide +kernel
theorem dX7_isUsable_8 : decode cX7_isUsable 8 = .ok (.aload_n 0, 1) := by decide +kernel
theorem dX7_isUsable_9 : decode cX7_isUsable 9 = .ok (.getfield 21, 3) := by decide +kernel
theorem dX7_isUsable_12 : decode cX7_isUsable 12 = .ok (.iload_n 1, 1) := by decide +kernel
theorem dX7_isUsable_13 : decode cX7_isUsable 13 = .ok (.iaload, 1) := by decide +kernel
theorem dX7_isUsable_14 : decode cX7_isUsable 14 = .ok (.bipush 7, 2) := by decide +kernel
theorem dX7_isUsable_16 : decode cX7_isUsable 16 = .ok (.if_icmp .ne 7, 3) := by decide +kernel
theorem dX7_isUsable_19 : decode cX7_isUsable 19 = .ok (.iconst 1, 1) := by decide +kernel
theorem dX7_isUsable_20 : decode cX7_isUsable 20 = .ok (.goto 4, 3) := by decide +kernel
theorem dX7_isUsable_23 : decode cX7_isUsable 23 = .ok (.iconst 0, 1) := by decide +kernel
theorem dX7_isUsable_24 : decode cX7_isUsable 24 = .ok (.ireturn, 1) := by decide +kernel
set_option maxRecDepth 20000 in
theorem ggX7_isFreeCore_X7_isFree : GoodIn wsX7_isFreeCore wsX7_isFree := goodIn_r _ [6, 7, 1, 8, 9, 10, 5, 11, 12, 13, 14, 15, 16, 17, 18] (by decide +kernel) (by decide +kernel)
set_option maxRecDepth 20000 in
theorem gX7_isFreeCore_X7_isFree : GoodIn wsX7_isFreeCore (wsV RX7 45 RX7 yX7_isFree wsX7_isFree) := goodIn_app (goodIn_of _ (by decide +kernel)) ggX7_isFreeCore_X7_isFree
theorem dX7_isFreeCore_0 : decode cX7_isFreeCore 0 = .ok (.aload_n 0, 1) := by decide +kernel
theorem dX7_isFreeCore_1 : decode cX7_isFreeCore 1 = .ok (.iload_n 1, 1) := by decide +kernel
theorem dX7_isFreeCore_2 : decode cX7_isFreeCore 2 = .ok (.invokevirtual 45, 3) := by decide +kernel
theorem dX7_isFreeCore_5 : decode cX7_isFreeCore 5 = .ok (.ifCond .eq 17, 3) := by decide +kernel
theorem dX7_isFreeCore_8 : decode cX7_isFreeCore 8 = .ok (.aload_n 0, 1) := by decide +kernel
theorem dX7_isFreeCore_9 : decode cX7_isFreeCore 9 = .ok (.getfield 15, 3) := by decide +kernel
theorem dX7_isFreeCore_12 : decode cX7_isFreeCore 12 = .ok (.iload_n 1, 1) := by decide +kernel
theorem dX7_isFreeCore_13 : decode cX7_isFreeCore 13 = .ok (.iaload, 1) := by decide +kernel
theorem dX7_isFreeCore_14 : decode cX7_isFreeCore 14 = .ok (.iconst 4, 1) := by decide +kernel
theorem dX7_isFreeCore_15 : decode cX7_isFreeCore 15 = .ok (.if_icmp .eq 7, 3) := by decide +kernel
theorem dX7_isFreeCore_18 : decode cX7_isFreeCore 18 = .ok (.iconst 1, 1) := by decide +kernel
theorem dX7_isFreeCore_19 : decode cX7_isFreeCore 19 = .ok (.goto 4, 3) := by decide +kernel
theorem dX7_isFreeCore_22 : decode cX7_isFreeCore 22 = .ok (.iconst 0, 1) := by decide +kernel
theorem dX7_isFreeCore_23 : decode cX7_isFreeCore 23 = .ok (.ireturn, 1) := by decide +kernel
set_option maxRecDepth 20000 in
theorem ggX7_isGoodSpare_X7_isFree : GoodIn wsX7_isGoodSpare wsX7_isFree := goodIn_r _ [6, 7, 1, 8, 9, 10, 5, 11, 12, 18, 19, 20, 21, 22, 23] (by decide +kernel) (by decide +kernel)
set_option maxRecDepth 20000 in
theorem gX7_isGoodSpare_X7_isFree : GoodIn wsX7_isGoodSpare (wsV RX7 45 RX7 yX7_isFree wsX7_isFree) := goodIn_app (goodIn_of _ (by decide +kernel)) ggX7_isGoodSpare_X7_isFree
set_option maxRecDepth 20000 in
theorem ggX7_isGoodSpare_X7_isUsable : GoodIn wsX7_isGoodSpare wsX7_isUsable := goodIn_r _ [16, 17, 8, 9, 10, 5, 11, 12, 18, 19, 20, 21, 22, 23] (by decide +kernel) (by decide +kernel)
set_option maxRecDepth 20000 in
theorem gX7_isGoodSpare_X7_isUsable : GoodIn wsX7_isGoodSpare (wsV RX7 48 RX7 yX7_isUsable wsX7_isUsable) := goodIn_app (goodIn_of _ (by decide +kernel)) ggX7_isGoodSpare_X7_isUsable
theorem dX7_isGoodSpare_0 : decode cX7_isGoodSpare 0 = .ok (.aload_n 0, 1) := by decide +kernel
theorem dX7_isGoodSpare_1 : decode cX7_isGoodSpare 1 = .ok (.iload_n 1, 1) := by decide +kernel
theorem dX7_isGoodSpare_2 : decode cX7_isGoodSpare 2 = .ok (.invokevirtual 45, 3) := by decide +kernel
theorem dX7_isGoodSpare_5 : decode cX7_isGoodSpare 5 = .ok (.ifCond .eq 25, 3) := by decide +kernel
theorem dX7_isGoodSpare_8 : decode cX7_isGoodSpare 8 = .ok (.aload_n 0, 1) := by decide +kernel
theorem dX7_isGoodSpare_9 : decode cX7_isGoodSpare 9 = .ok (.iload_n 1, 1) := by decide +kernel
theorem dX7_isGoodSpare_10 : decode cX7_isGoodSpare 10 = .ok (.invokevirtual 48, 3) := by decide +kernel
theorem dX7_isGoodSpare_13 : decode cX7_isGoodSpare 13 = .ok (.ifCond .eq 17, 3) := by decide +kernel
theorem dX7_isGoodSpare_16 : decode cX7_isGoodSpare 16 = .ok (.aload_n 0, 1) := by decide +kernel
theorem dX7_isGoodSpare_17 : decode cX7_isGoodSpare 17 = .ok (.getfield 15, 3) := by decide +kernel
theorem dX7_isGoodSpare_20 : decode cX7_isGoodSpare 20 = .ok (.iload_n 1, 1) := by decide +kernel
theorem dX7_isGoodSpare_21 : decode cX7_isGoodSpare 21 = .ok (.iaload, 1) := by decide +kernel
theorem dX7_isGoodSpare_22 : decode cX7_isGoodSpare 22 = .ok (.iconst 4, 1) := by decide +kernel
theorem dX7_isGoodSpare_23 : decode cX7_isGoodSpare 23 = .ok (.if_icmp .ne 7, 3) := by decide +kernel
theorem dX7_isGoodSpare_26 : decode cX7_isGoodSpare 26 = .ok (.iconst 1, 1) := by decide +kernel
theorem dX7_isGoodSpare_27 : decode cX7_isGoodSpare 27 = .ok (.goto 4, 3) := by decide +kernel
theorem dX7_isGoodSpare_30 : decode cX7_isGoodSpare 30 = .ok (.iconst 0, 1) := by decide +kernel
theorem dX7_isGoodSpare_31 : decode cX7_isGoodSpare 31 = .ok (.ireturn, 1) := by decide +kernel
set_option maxRecDepth 20000 in
theorem ggX7_isOfKindAt_X7_has : GoodIn wsX7_isOfKindAt wsX7_has := goodIn_r _ [7, 8, 9, 10, 11, 12, 13, 14] (by decide +kernel) (by decide +kernel)
set_option maxRecDepth 20000 in
theorem gX7_isOfKindAt_X7_has : GoodIn wsX7_isOfKindAt (wsV RX7 41 RX7 yX7_has wsX7_has) := goodIn_app (goodIn_of _ (by decide +kernel)) ggX7_isOfKindAt_X7_has
theorem dX7_isOfKindAt_0 : decode cX7_isOfKindAt 0 = .ok (.aload_n 0, 1) := by decide +kernel
theorem dX7_isOfKindAt_1 : decode cX7_isOfKindAt 1 = .ok (.iload_n 1, 1) := by decide +kernel
theorem dX7_isOfKindAt_2 : decode cX7_isOfKindAt 2 = .ok (.invokevirtual 41, 3) := by decide +kernel
theorem dX7_isOfKindAt_5 : decode cX7_isOfKindAt 5 = .ok (.ifCond .eq 27, 3) := by decide +kernel
theorem dX7_isOfKindAt_8 : decode cX7_isOfKindAt 8 = .ok (.aload_n 0, 1) := by decide +kernel
theorem dX7_isOfKindAt_9 : decode cX7_isOfKindAt 9 = .ok (.getfield 9, 3) := by decide +kernel
theorem dX7_isOfKindAt_12 : decode cX7_isOfKindAt 12 = .ok (.iload_n 1, 1) := by decide +kernel
theorem dX7_isOfKindAt_13 : decode cX7_isOfKindAt 13 = .ok (.iaload, 1) := by decide +kernel
theorem dX7_isOfKindAt_14 : decode cX7_isOfKindAt 14 = .ok (.iload_n 2, 1) := by decide +kernel
theorem dX7_isOfKindAt_15 : decode cX7_isOfKindAt 15 = .ok (.if_icmp .ne 17, 3) := by decide +kernel
theorem dX7_isOfKindAt_18 : decode cX7_isOfKindAt 18 = .ok (.aload_n 0, 1) := by decide +kernel
theorem dX7_isOfKindAt_19 : decode cX7_isOfKindAt 19 = .ok (.getfield 18, 3) := by decide +kernel
theorem dX7_isOfKindAt_22 : decode cX7_isOfKindAt 22 = .ok (.iload_n 1, 1) := by decide +kernel
theorem dX7_isOfKindAt_23 : decode cX7_isOfKindAt 23 = .ok (.iaload, 1) := by decide +kernel
theorem dX7_isOfKindAt_24 : decode cX7_isOfKindAt 24 = .ok (.iload_n 3, 1) := by decide +kernel
theorem dX7_isOfKindAt_25 : decode cX7_isOfKindAt 25 = .ok (.if_icmp .ne 7, 3) := by decide +kernel
theorem dX7_isOfKindAt_28 : decode cX7_isOfKindAt 28 = .ok (.iconst 1, 1) := by decide +kernel
theorem dX7_isOfKindAt_29 : decode cX7_isOfKindAt 29 = .ok (.goto 4, 3) := by decide +kernel
theorem dX7_isOfKindAt_32 : decode cX7_isOfKindAt 32 = .ok (.iconst 0, 1) := by decide +kernel
theorem dX7_isOfKindAt_33 : decode cX7_isOfKindAt 33 = .ok (.ireturn, 1) := by decide +kernel
set_option maxRecDepth 20000 in
theorem ggX7_hasPart_X7_has : GoodIn wsX7_hasPart wsX7_has := goodIn_r _ [6, 7, 8, 9, 10, 11, 12, 13] (by decide +kernel) (by decide +kernel)
set_option maxRecDepth 20000 in
theorem gX7_hasPart_X7_has : GoodIn wsX7_hasPart (wsV RX7 41 RX7 yX7_has wsX7_has) := goodIn_app (goodIn_of _ (by decide +kernel)) ggX7_hasPart_X7_has
theorem dX7_hasPart_0 : decode cX7_hasPart 0 = .ok (.aload_n 0, 1) := by decide +kernel
theorem dX7_hasPart_1 : decode cX7_hasPart 1 = .ok (.iload_n 1, 1) := by decide +kernel
theorem dX7_hasPart_2 : decode cX7_hasPart 2 = .ok (.invokevirtual 41, 3) := by decide +kernel
theorem dX7_hasPart_5 : decode cX7_hasPart 5 = .ok (.ifCond .eq 20, 3) := by decide +kernel
theorem dX7_hasPart_8 : decode cX7_hasPart 8 = .ok (.aload_n 0, 1) := by decide +kernel
theorem dX7_hasPart_9 : decode cX7_hasPart 9 = .ok (.getfield 21, 3) := by decide +kernel
theorem dX7_hasPart_12 : decode cX7_hasPart 12 = .ok (.iload_n 1, 1) := by decide +kernel
theorem dX7_hasPart_13 : decode cX7_hasPart 13 = .ok (.iaload, 1) := by decide +kernel
theorem dX7_hasPart_14 : decode cX7_hasPart 14 = .ok (.iconst 1, 1) := by decide +kernel
theorem dX7_hasPart_15 : decode cX7_hasPart 15 = .ok (.iload_n 2, 1) := by decide +kernel
theorem dX7_hasPart_16 : decode cX7_hasPart 16 = .ok (.ishl, 1) := by decide +kernel
theorem dX7_hasPart_17 : decode cX7_hasPart 17 = .ok (.iand, 1) := by decide +kernel
theorem dX7_hasPart_18 : decode cX7_hasPart 18 = .ok (.ifCond .eq 7, 3) := by decide +kernel
theorem dX7_hasPart_21 : decode cX7_hasPart 21 = .ok (.iconst 1, 1) := by decide +kernel
theorem dX7_hasPart_22 : decode cX7_hasPart 22 = .ok (.goto 4, 3) := by decide +kernel
theorem dX7_hasPart_25 : decode cX7_hasPart 25 = .ok (.iconst 0, 1) := by decide +kernel
theorem dX7_hasPart_26 : decode cX7_hasPart 26 = .ok (.ireturn, 1) := by decide +kernel
set_option maxRecDepth 20000 in
theorem ggX7_missingParts_X7_has : GoodIn wsX7_missingParts wsX7_has := goodIn_r _ [6, 7, 15, 16, 17, 18, 19, 20] (by decide +kernel) (by decide +kernel)
set_option maxRecDepth 20000 in
theorem gX7_missingParts_X7_has : GoodIn wsX7_missingParts (wsV RX7 41 RX7 yX7_has wsX7_has) := goodIn_app (goodIn_of _ (by decide +kernel)) ggX7_missingParts_X7_has
set_option maxRecDepth 20000 in
theorem ggX7_missingParts_J6_bitCount_0f7a4 : GoodIn wsX7_missingParts wsJ6_bitCount_0f7a4 := goodIn_r _ [11, 12, 13, 14] (by decide +kernel) (by decide +kernel)
set_option maxRecDepth 20000 in
theorem gX7_missingParts_J6_bitCount_0f7a4 : GoodIn wsX7_missingParts (va_wsS RX7 51 yJ6_bitCount_0f7a4 wsJ6_bitCount_0f7a4) := goodIn_app (goodIn_of _ (by decide +kernel)) ggX7_missingParts_J6_bitCount_0f7a4
theorem dX7_missingParts_0 : decode cX7_missingParts 0 = .ok (.aload_n 0, 1) := by decide +kernel
theorem dX7_missingParts_1 : decode cX7_missingParts 1 = .ok (.iload_n 1, 1) := by decide +kernel
theorem dX7_missingParts_2 : decode cX7_missingParts 2 = .ok (.invokevirtual 41, 3) := by decide +kernel
theorem dX7_missingParts_5 : decode cX7_missingParts 5 = .ok (.ifCond .eq 20, 3) := by decide +kernel
theorem dX7_missingParts_8 : decode cX7_missingParts 8 = .ok (.iconst 3, 1) := by decide +kernel
theorem dX7_missingParts_9 : decode cX7_missingParts 9 = .ok (.aload_n 0, 1) := by decide +kernel
theorem dX7_missingParts_10 : decode cX7_missingParts 10 = .ok (.getfield 21, 3) := by decide +kernel
theorem dX7_missingParts_13 : decode cX7_missingParts 13 = .ok (.iload_n 1, 1) := by decide +kernel
theorem dX7_missingParts_14 : decode cX7_missingParts 14 = .ok (.iaload, 1) := by decide +kernel
theorem dX7_missingParts_15 : decode cX7_missingParts 15 = .ok (.bipush 7, 2) := by decide +kernel
theorem dX7_missingParts_17 : decode cX7_missingParts 17 = .ok (.iand, 1) := by decide +kernel
theorem dX7_missingParts_18 : decode cX7_missingParts 18 = .ok (.invokestatic 51, 3) := by decide +kernel
theorem dX7_missingParts_21 : decode cX7_missingParts 21 = .ok (.isub, 1) := by decide +kernel
theorem dX7_missingParts_22 : decode cX7_missingParts 22 = .ok (.goto 4, 3) := by decide +kernel
theorem dX7_missingParts_25 : decode cX7_missingParts 25 = .ok (.iconst 0, 1) := by decide +kernel
theorem dX7_missingParts_26 : decode cX7_missingParts 26 = .ok (.ireturn, 1) := by decide +kernel
set_option maxRecDepth 20000 in
theorem ggX7_usableOnes_X7_isUsable : GoodIn wsX7_usableOnes wsX7_isUsable := goodIn_r _ [6, 7, 8, 9, 10, 5, 11, 1, 12, 13, 14, 15, 16, 17] (by decide +kernel) (by decide +kernel)
set_option maxRecDepth 20000 in
theorem gX7_usableOnes_X7_isUsable : GoodIn wsX7_usableOnes (wsV RX7 48 RX7 yX7_isUsable wsX7_isUsable) := goodIn_app (goodIn_of _ (by decide +kernel)) ggX7_usableOnes_X7_isUsable
theorem dX7_usableOnes_0 : decode cX7_usableOnes 0 = .ok (.iconst 0, 1) := by decide +kernel
theorem dX7_usableOnes_1 : decode cX7_usableOnes 1 = .ok (.istore_n 1, 1) := by decide +kernel
theorem dX7_usableOnes_2 : decode cX7_usableOnes 2 = .ok (.iconst 0, 1) := by decide +kernel
theorem dX7_usableOnes_3 : decode cX7_usableOnes 3 = .ok (.istore_n 2, 1) := by decide +kernel
theorem dX7_usableOnes_4 : decode cX7_usableOnes 4 = .ok (.iload_n 2, 1) := by decide +kernel
theorem dX7_usableOnes_5 : decode cX7_usableOnes 5 = .ok (.aload_n 0, 1) := by decide +kernel
theorem dX7_usableOnes_6 : decode cX7_usableOnes 6 = .ok (.getfield 33, 3) := by decide +kernel
theorem dX7_usableOnes_9 : decode cX7_usableOnes 9 = .ok (.if_icmp .ge 25, 3) := by decide +kernel
theorem dX7_usableOnes_12 : decode cX7_usableOnes 12 = .ok (.iload_n 1, 1) := by decide +kernel
theorem dX7_usableOnes_13 : decode cX7_usableOnes 13 = .ok (.aload_n 0, 1) := by decide +kernel
theorem dX7_usableOnes_14 : decode cX7_usableOnes 14 = .ok (.iload_n 2, 1) := by decide +kernel
theorem dX7_usableOnes_15 : decode cX7_usableOnes 15 = .ok (.invokevirtual 48, 3) := by decide +kernel
theorem dX7_usableOnes_18 : decode cX7_usableOnes 18 = .ok (.ifCond .eq 7, 3) := by decide +kernel
theorem dX7_usableOnes_21 : decode cX7_usableOnes 21 = .ok (.iconst 1, 1) := by decide +kernel
theorem dX7_usableOnes_22 : decode cX7_usableOnes 22 = .ok (.goto 4, 3) := by decide +kernel
theorem dX7_usableOnes_25 : decode cX7_usableOnes 25 = .ok (.iconst 0, 1) := by decide +kernel
theorem dX7_usableOnes_26 : decode cX7_usableOnes 26 = .ok (.iadd, 1) := by decide +kernel
theorem dX7_usableOnes_27 : decode cX7_usableOnes 27 = .ok (.istore_n 1, 1) := by decide +kernel
theorem dX7_usableOnes_28 : decode cX7_usableOnes 28 = .ok (.iinc 2 1, 3) := by decide +kernel
theorem dX7_usableOnes_31 : decode cX7_usableOnes 31 = .ok (.goto (-27), 3) := by decide +kernel
theorem dX7_usableOnes_34 : decode cX7_usableOnes 34 = .ok (.iload_n 1, 1) := by decide +kernel
theorem dX7_usableOnes_35 : decode cX7_usableOnes 35 = .ok (.ireturn, 1) := by decide +kernel
set_option maxRecDepth 20000 in
theorem ggX7_onLoan_X7_isFree : GoodIn wsX7_onLoan wsX7_isFree := goodIn_r _ [6, 7, 8, 9, 10, 11, 5, 12, 1, 13, 14, 15, 16, 17, 18] (by decide +kernel) (by decide +kernel)
set_option maxRecDepth 20000 in
theorem gX7_onLoan_X7_isFree : GoodIn wsX7_onLoan (wsV RX7 45 RX7 yX7_isFree wsX7_isFree) := goodIn_app (goodIn_of _ (by decide +kernel)) ggX7_onLoan_X7_isFree
theorem dX7_onLoan_0 : decode cX7_onLoan 0 = .ok (.iconst 0, 1) := by decide +kernel
theorem dX7_onLoan_1 : decode cX7_onLoan 1 = .ok (.istore_n 1, 1) := by decide +kernel
theorem dX7_onLoan_2 : decode cX7_onLoan 2 = .ok (.iconst 0, 1) := by decide +kernel
theorem dX7_onLoan_3 : decode cX7_onLoan 3 = .ok (.istore_n 2, 1) := by decide +kernel
theorem dX7_onLoan_4 : decode cX7_onLoan 4 = .ok (.iload_n 2, 1) := by decide +kernel
theorem dX7_onLoan_5 : decode cX7_onLoan 5 = .ok (.aload_n 0, 1) := by decide +kernel
theorem dX7_onLoan_6 : decode cX7_onLoan 6 = .ok (.getfield 33, 3) := by decide +kernel
theorem dX7_onLoan_9 : decode cX7_onLoan 9 = .ok (.if_icmp .ge 25, 3) := by decide +kernel
theorem dX7_onLoan_12 : decode cX7_onLoan 12 = .ok (.iload_n 1, 1) := by decide +kernel
theorem dX7_onLoan_13 : decode cX7_onLoan 13 = .ok (.aload_n 0, 1) := by decide +kernel
theorem dX7_onLoan_14 : decode cX7_onLoan 14 = .ok (.iload_n 2, 1) := by decide +kernel
theorem dX7_onLoan_15 : decode cX7_onLoan 15 = .ok (.invokevirtual 45, 3) := by decide +kernel
theorem dX7_onLoan_18 : decode cX7_onLoan 18 = .ok (.ifCond .eq 7, 3) := by decide +kernel
theorem dX7_onLoan_21 : decode cX7_onLoan 21 = .ok (.iconst 0, 1) := by decide +kernel
theorem dX7_onLoan_22 : decode cX7_onLoan 22 = .ok (.goto 4, 3) := by decide +kernel
theorem dX7_onLoan_25 : decode cX7_onLoan 25 = .ok (.iconst 1, 1) := by decide +kernel
theorem dX7_onLoan_26 : decode cX7_onLoan 26 = .ok (.iadd, 1) := by decide +kernel
theorem dX7_onLoan_27 : decode cX7_onLoan 27 = .ok (.istore_n 1, 1) := by decide +kernel
theorem dX7_onLoan_28 : decode cX7_onLoan 28 = .ok (.iinc 2 1, 3) := by decide +kernel
theorem dX7_onLoan_31 : decode cX7_onLoan 31 = .ok (.goto (-27), 3) := by decide +kernel
theorem dX7_onLoan_34 : decode cX7_onLoan 34 = .ok (.iload_n 1, 1) := by decide +kernel
theorem dX7_onLoan_35 : decode cX7_onLoan 35 = .ok (.ireturn, 1) := by decide +kernel
set_option maxRecDepth 20000 in
theorem ggX7_dueBefore_X7_isFree : GoodIn wsX7_dueBefore wsX7_isFree := goodIn_r _ [7, 8, 9, 10, 11, 12, 6, 13, 1, 14, 15, 16, 17, 18, 19] (by decide +kernel) (by decide +kernel)
set_option maxRecDepth 20000 in
theorem gX7_dueBefore_X7_isFree : GoodIn wsX7_dueBefore (wsV RX7 45 RX7 yX7_isFree wsX7_isFree) := goodIn_app (goodIn_of _ (by decide +kernel)) ggX7_dueBefore_X7_isFree
theorem dX7_dueBefore_0 : decode cX7_dueBefore 0 = .ok (.iconst 0, 1) := by decide +kernel
theorem dX7_dueBefore_1 : decode cX7_dueBefore 1 = .ok (.istore_n 2, 1) := by decide +kernel
theorem dX7_dueBefore_2 : decode cX7_dueBefore 2 = .ok (.iconst 0, 1) := by decide +kernel
theorem dX7_dueBefore_3 : decode cX7_dueBefore 3 = .ok (.istore_n 3, 1) := by decide +kernel
theorem dX7_dueBefore_4 : decode cX7_dueBefore 4 = .ok (.iload_n 3, 1) := by decide +kernel
theorem dX7_dueBefore_5 : decode cX7_dueBefore 5 = .ok (.aload_n 0, 1) := by decide +kernel
theorem dX7_dueBefore_6 : decode cX7_dueBefore 6 = .ok (.getfield 33, 3) := by decide +kernel
theorem dX7_dueBefore_9 : decode cX7_dueBefore 9 = .ok (.if_icmp .ge 35, 3) := by decide +kernel
theorem dX7_dueBefore_12 : decode cX7_dueBefore 12 = .ok (.iload_n 2, 1) := by decide +kernel
theorem dX7_dueBefore_13 : decode cX7_dueBefore 13 = .ok (.aload_n 0, 1) := by decide +kernel
theorem dX7_dueBefore_14 : decode cX7_dueBefore 14 = .ok (.iload_n 3, 1) := by decide +kernel
theorem dX7_dueBefore_15 : decode cX7_dueBefore 15 = .ok (.invokevirtual 45, 3) := by decide +kernel
theorem dX7_dueBefore_18 : decode cX7_dueBefore 18 = .ok (.ifCond .ne 17, 3) := by decide +kernel
theorem dX7_dueBefore_21 : decode cX7_dueBefore 21 = .ok (.aload_n 0, 1) := by decide +kernel
theorem dX7_dueBefore_22 : decode cX7_dueBefore 22 = .ok (.getfield 24, 3) := by decide +kernel
theorem dX7_dueBefore_25 : decode cX7_dueBefore 25 = .ok (.iload_n 3, 1) := by decide +kernel
theorem dX7_dueBefore_26 : decode cX7_dueBefore 26 = .ok (.iaload, 1) := by decide +kernel
theorem dX7_dueBefore_27 : decode cX7_dueBefore 27 = .ok (.iload_n 1, 1) := by decide +kernel
theorem dX7_dueBefore_28 : decode cX7_dueBefore 28 = .ok (.if_icmp .ge 7, 3) := by decide +kernel
theorem dX7_dueBefore_31 : decode cX7_dueBefore 31 = .ok (.iconst 1, 1) := by decide +kernel
theorem dX7_dueBefore_32 : decode cX7_dueBefore 32 = .ok (.goto 4, 3) := by decide +kernel
theorem dX7_dueBefore_35 : decode cX7_dueBefore 35 = .ok (.iconst 0, 1) := by decide +kernel
theorem dX7_dueBefore_36 : decode cX7_dueBefore 36 = .ok (.iadd, 1) := by decide +kernel
theorem dX7_dueBefore_37 : decode cX7_dueBefore 37 = .ok (.istore_n 2, 1) := by decide +kernel
theorem dX7_dueBefore_38 : decode cX7_dueBefore 38 = .ok (.iinc 3 1, 3) := by decide +kernel
theorem dX7_dueBefore_41 : decode cX7_dueBefore 41 = .ok (.goto (-37), 3) := by decide +kernel
theorem dX7_dueBefore_44 : decode cX7_dueBefore 44 = .ok (.iload_n 2, 1) := by decide +kernel
theorem dX7_dueBefore_45 : decode cX7_dueBefore 45 = .ok (.ireturn, 1) := by decide +kernel
theorem dX7_ownedBy_0 : decode cX7_ownedBy 0 = .ok (.iconst 0, 1) := by decide +kernel
theorem dX7_ownedBy_1 : decode cX7_ownedBy 1 = .ok (.istore_n 2, 1) := by decide +kernel
theorem dX7_ownedBy_2 : decode cX7_ownedBy 2 = .ok (.iconst 0, 1) := by decide +kernel
theorem dX7_ownedBy_3 : decode cX7_ownedBy 3 = .ok (.istore_n 3, 1) := by decide +kernel
theorem dX7_ownedBy_4 : decode cX7_ownedBy 4 = .ok (.iload_n 3, 1) := by decide +kernel
theorem dX7_ownedBy_5 : decode cX7_ownedBy 5 = .ok (.aload_n 0, 1) := by decide +kernel
theorem dX7_ownedBy_6 : decode cX7_ownedBy 6 = .ok (.getfield 33, 3) := by decide +kernel
theorem dX7_ownedBy_9 : decode cX7_ownedBy 9 = .ok (.if_icmp .ge 27, 3) := by decide +kernel
theorem dX7_ownedBy_12 : decode cX7_ownedBy 12 = .ok (.iload_n 2, 1) := by decide +kernel
theorem dX7_ownedBy_13 : decode cX7_ownedBy 13 = .ok (.aload_n 0, 1) := by decide +kernel
theorem dX7_ownedBy_14 : decode cX7_ownedBy 14 = .ok (.getfield 15, 3) := by decide +kernel
theorem dX7_ownedBy_17 : decode cX7_ownedBy 17 = .ok (.iload_n 3, 1) := by decide +kernel
theorem dX7_ownedBy_18 : decode cX7_ownedBy 18 = .ok (.iaload, 1) := by decide +kernel
theorem dX7_ownedBy_19 : decode cX7_ownedBy 19 = .ok (.iload_n 1, 1) := by decide +kernel
theorem dX7_ownedBy_20 : decode cX7_ownedBy 20 = .ok (.if_icmp .ne 7, 3) := by decide +kernel
theorem dX7_ownedBy_23 : decode cX7_ownedBy 23 = .ok (.iconst 1, 1) := by decide +kernel
theorem dX7_ownedBy_24 : decode cX7_ownedBy 24 = .ok (.goto 4, 3) := by decide +kernel
theorem dX7_ownedBy_27 : decode cX7_ownedBy 27 = .ok (.iconst 0, 1) := by decide +kernel
theorem dX7_ownedBy_28 : decode cX7_ownedBy 28 = .ok (.iadd, 1) := by decide +kernel
theorem dX7_ownedBy_29 : decode cX7_ownedBy 29 = .ok (.istore_n 2, 1) := by decide +kernel
theorem dX7_ownedBy_30 : decode cX7_ownedBy 30 = .ok (.iinc 3 1, 3) := by decide +kernel
theorem dX7_ownedBy_33 : decode cX7_ownedBy 33 = .ok (.goto (-29), 3) := by decide +kernel
theorem dX7_ownedBy_36 : decode cX7_ownedBy 36 = .ok (.iload_n 2, 1) := by decide +kernel
theorem dX7_ownedBy_37 : decode cX7_ownedBy 37 = .ok (.ireturn, 1) := by decide +kernel
theorem dX7_placedAt_0 : decode cX7_placedAt 0 = .ok (.iconst 0, 1) := by decide +kernel
theorem dX7_placedAt_1 : decode cX7_placedAt 1 = .ok (.istore_n 2, 1) := by decide +kernel
theorem dX7_placedAt_2 : decode cX7_placedAt 2 = .ok (.iconst 0, 1) := by decide +kernel
theorem dX7_placedAt_3 : decode cX7_placedAt 3 = .ok (.istore_n 3, 1) := by decide +kernel
theorem dX7_placedAt_4 : decode cX7_placedAt 4 = .ok (.iload_n 3, 1) := by decide +kernel
theorem dX7_placedAt_5 : decode cX7_placedAt 5 = .ok (.aload_n 0, 1) := by decide +kernel
theorem dX7_placedAt_6 : decode cX7_placedAt 6 = .ok (.getfield 33, 3) := by decide +kernel
theorem dX7_placedAt_9 : decode cX7_placedAt 9 = .ok (.if_icmp .ge 27, 3) := by decide +kernel
theorem dX7_placedAt_12 : decode cX7_placedAt 12 = .ok (.iload_n 2, 1) := by decide +kernel
theorem dX7_placedAt_13 : decode cX7_placedAt 13 = .ok (.aload_n 0, 1) := by decide +kernel
theorem dX7_placedAt_14 : decode cX7_placedAt 14 = .ok (.getfield 18, 3) := by decide +kernel
theorem dX7_placedAt_17 : decode cX7_placedAt 17 = .ok (.iload_n 3, 1) := by decide +kernel
theorem dX7_placedAt_18 : decode cX7_placedAt 18 = .ok (.iaload, 1) := by decide +kernel
theorem dX7_placedAt_19 : decode cX7_placedAt 19 = .ok (.iload_n 1, 1) := by decide +kernel
theorem dX7_placedAt_20 : decode cX7_placedAt 20 = .ok (.if_icmp .ne 7, 3) := by decide +kernel
theorem dX7_placedAt_23 : decode cX7_placedAt 23 = .ok (.iconst 1, 1) := by decide +kernel
theorem dX7_placedAt_24 : decode cX7_placedAt 24 = .ok (.goto 4, 3) := by decide +kernel
theorem dX7_placedAt_27 : decode cX7_placedAt 27 = .ok (.iconst 0, 1) := by decide +kernel
theorem dX7_placedAt_28 : decode cX7_placedAt 28 = .ok (.iadd, 1) := by decide +kernel
theorem dX7_placedAt_29 : decode cX7_placedAt 29 = .ok (.istore_n 2, 1) := by decide +kernel
theorem dX7_placedAt_30 : decode cX7_placedAt 30 = .ok (.iinc 3 1, 3) := by decide +kernel
theorem dX7_placedAt_33 : decode cX7_placedAt 33 = .ok (.goto (-29), 3) := by decide +kernel
theorem dX7_placedAt_36 : decode cX7_placedAt 36 = .ok (.iload_n 2, 1) := by decide +kernel
theorem dX7_placedAt_37 : decode cX7_placedAt 37 = .ok (.ireturn, 1) := by decide +kernel
theorem dX7_borrowedBy_0 : decode cX7_borrowedBy 0 = .ok (.iconst 0, 1) := by decide +kernel
theorem dX7_borrowedBy_1 : decode cX7_borrowedBy 1 = .ok (.istore_n 2, 1) := by decide +kernel
theorem dX7_borrowedBy_2 : decode cX7_borrowedBy 2 = .ok (.iconst 0, 1) := by decide +kernel
theorem dX7_borrowedBy_3 : decode cX7_borrowedBy 3 = .ok (.istore_n 3, 1) := by decide +kernel
theorem dX7_borrowedBy_4 : decode cX7_borrowedBy 4 = .ok (.iload_n 3, 1) := by decide +kernel
theorem dX7_borrowedBy_5 : decode cX7_borrowedBy 5 = .ok (.aload_n 0, 1) := by decide +kernel
theorem dX7_borrowedBy_6 : decode cX7_borrowedBy 6 = .ok (.getfield 33, 3) := by decide +kernel
theorem dX7_borrowedBy_9 : decode cX7_borrowedBy 9 = .ok (.if_icmp .ge 37, 3) := by decide +kernel
theorem dX7_borrowedBy_12 : decode cX7_borrowedBy 12 = .ok (.iload_n 2, 1) := by decide +kernel
theorem dX7_borrowedBy_13 : decode cX7_borrowedBy 13 = .ok (.aload_n 0, 1) := by decide +kernel
theorem dX7_borrowedBy_14 : decode cX7_borrowedBy 14 = .ok (.getfield 18, 3) := by decide +kernel
theorem dX7_borrowedBy_17 : decode cX7_borrowedBy 17 = .ok (.iload_n 3, 1) := by decide +kernel
theorem dX7_borrowedBy_18 : decode cX7_borrowedBy 18 = .ok (.iaload, 1) := by decide +kernel
theorem dX7_borrowedBy_19 : decode cX7_borrowedBy 19 = .ok (.iload_n 1, 1) := by decide +kernel
theorem dX7_borrowedBy_20 : decode cX7_borrowedBy 20 = .ok (.if_icmp .ne 17, 3) := by decide +kernel
theorem dX7_borrowedBy_23 : decode cX7_borrowedBy 23 = .ok (.aload_n 0, 1) := by decide +kernel
theorem dX7_borrowedBy_24 : decode cX7_borrowedBy 24 = .ok (.getfield 15, 3) := by decide +kernel
theorem dX7_borrowedBy_27 : decode cX7_borrowedBy 27 = .ok (.iload_n 3, 1) := by decide +kernel
theorem dX7_borrowedBy_28 : decode cX7_borrowedBy 28 = .ok (.iaload, 1) := by decide +kernel
theorem dX7_borrowedBy_29 : decode cX7_borrowedBy 29 = .ok (.iload_n 1, 1) := by decide +kernel
theorem dX7_borrowedBy_30 : decode cX7_borrowedBy 30 = .ok (.if_icmp .eq 7, 3) := by decide +kernel
theorem dX7_borrowedBy_33 : decode cX7_borrowedBy 33 = .ok (.iconst 1, 1) := by decide +kernel
theorem dX7_borrowedBy_34 : decode cX7_borrowedBy 34 = .ok (.goto 4, 3) := by decide +kernel
theorem dX7_borrowedBy_37 : decode cX7_borrowedBy 37 = .ok (.iconst 0, 1) := by decide +kernel
theorem dX7_borrowedBy_38 : decode cX7_borrowedBy 38 = .ok (.iadd, 1) := by decide +kernel
theorem dX7_borrowedBy_39 : decode cX7_borrowedBy 39 = .ok (.istore_n 2, 1) := by decide +kernel
theorem dX7_borrowedBy_40 : decode cX7_borrowedBy 40 = .ok (.iinc 3 1, 3) := by decide +kernel
theorem dX7_borrowedBy_43 : decode cX7_borrowedBy 43 = .ok (.goto (-39), 3) := by decide +kernel
theorem dX7_borrowedBy_46 : decode cX7_borrowedBy 46 = .ok (.iload_n 2, 1) := by decide +kernel
theorem dX7_borrowedBy_47 : decode cX7_borrowedBy 47 = .ok (.ireturn, 1) := by decide +kernel
set_option maxRecDepth 20000 in
theorem ggX7_dueFirst_X7_isFree : GoodIn wsX7_dueFirst wsX7_isFree := goodIn_r _ [7, 8, 9, 10, 11, 12, 6, 13, 1, 14, 15, 16, 17, 18, 19] (by decide +kernel) (by decide +kernel)
set_option maxRecDepth 20000 in
theorem gX7_dueFirst_X7_isFree : GoodIn wsX7_dueFirst (wsV RX7 45 RX7 yX7_isFree wsX7_isFree) := goodIn_app (goodIn_of _ (by decide +kernel)) ggX7_dueFirst_X7_isFree
theorem dX7_dueFirst_0 : decode cX7_dueFirst 0 = .ok (.iconst (-1), 1) := by decide +kernel
theorem dX7_dueFirst_1 : decode cX7_dueFirst 1 = .ok (.istore_n 1, 1) := by decide +kernel
theorem dX7_dueFirst_2 : decode cX7_dueFirst 2 = .ok (.iconst 0, 1) := by decide +kernel
theorem dX7_dueFirst_3 : decode cX7_dueFirst 3 = .ok (.istore_n 2, 1) := by decide +kernel
theorem dX7_dueFirst_4 : decode cX7_dueFirst 4 = .ok (.iload_n 2, 1) := by decide +kernel
theorem dX7_dueFirst_5 : decode cX7_dueFirst 5 = .ok (.aload_n 0, 1) := by decide +kernel
theorem dX7_dueFirst_6 : decode cX7_dueFirst 6 = .ok (.getfield 33, 3) := by decide +kernel
theorem dX7_dueFirst_9 : decode cX7_dueFirst 9 = .ok (.if_icmp .ge 39, 3) := by decide +kernel
theorem dX7_dueFirst_12 : decode cX7_dueFirst 12 = .ok (.aload_n 0, 1) := by decide +kernel
theorem dX7_dueFirst_13 : decode cX7_dueFirst 13 = .ok (.iload_n 2, 1) := by decide +kernel
theorem dX7_dueFirst_14 : decode cX7_dueFirst 14 = .ok (.invokevirtual 45, 3) := by decide +kernel
theorem dX7_dueFirst_17 : decode cX7_dueFirst 17 = .ok (.ifCond .ne 25, 3) := by decide +kernel
theorem dX7_dueFirst_20 : decode cX7_dueFirst 20 = .ok (.iload_n 1, 1) := by decide +kernel
theorem dX7_dueFirst_21 : decode cX7_dueFirst 21 = .ok (.iconst (-1), 1) := by decide +kernel
theorem dX7_dueFirst_22 : decode cX7_dueFirst 22 = .ok (.if_icmp .eq 18, 3) := by decide +kernel
theorem dX7_dueFirst_25 : decode cX7_dueFirst 25 = .ok (.aload_n 0, 1) := by decide +kernel
theorem dX7_dueFirst_26 : decode cX7_dueFirst 26 = .ok (.getfield 24, 3) := by decide +kernel
theorem dX7_dueFirst_29 : decode cX7_dueFirst 29 = .ok (.iload_n 2, 1) := by decide +kernel
theorem dX7_dueFirst_30 : decode cX7_dueFirst 30 = .ok (.iaload, 1) := by decide +kernel
theorem dX7_dueFirst_31 : decode cX7_dueFirst 31 = .ok (.aload_n 0, 1) := by decide +kernel
theorem dX7_dueFirst_32 : decode cX7_dueFirst 32 = .ok (.getfield 24, 3) := by decide +kernel
theorem dX7_dueFirst_35 : decode cX7_dueFirst 35 = .ok (.iload_n 1, 1) := by decide +kernel
theorem dX7_dueFirst_36 : decode cX7_dueFirst 36 = .ok (.iaload, 1) := by decide +kernel
theorem dX7_dueFirst_37 : decode cX7_dueFirst 37 = .ok (.if_icmp .ge 5, 3) := by decide +kernel
theorem dX7_dueFirst_40 : decode cX7_dueFirst 40 = .ok (.iload_n 2, 1) := by decide +kernel
theorem dX7_dueFirst_41 : decode cX7_dueFirst 41 = .ok (.istore_n 1, 1) := by decide +kernel
theorem dX7_dueFirst_42 : decode cX7_dueFirst 42 = .ok (.iinc 2 1, 3) := by decide +kernel
theorem dX7_dueFirst_45 : decode cX7_dueFirst 45 = .ok (.goto (-41), 3) := by decide +kernel
theorem dX7_dueFirst_48 : decode cX7_dueFirst 48 = .ok (.iload_n 1, 1) := by decide +kernel
theorem dX7_dueFirst_49 : decode cX7_dueFirst 49 = .ok (.ireturn, 1) := by decide +kernel
set_option maxRecDepth 20000 in
theorem ggX7_mostCompleted_X7_isOfKindAt : GoodIn wsX7_mostCompleted wsX7_isOfKindAt := goodIn_r _ [10, 11, 12, 13, 14, 15, 9, 16, 1, 22, 23, 24, 25, 26, 27] (by decide +kernel) (by decide +kernel)
set_option maxRecDepth 20000 in
theorem gX7_mostCompleted_X7_isOfKindAt : GoodIn wsX7_mostCompleted (wsV RX7 57 RX7 yX7_isOfKindAt wsX7_isOfKindAt) := goodIn_app (goodIn_of _ (by decide +kernel)) ggX7_mostCompleted_X7_isOfKindAt
set_option maxRecDepth 20000 in
theorem ggX7_mostCompleted_X7_hasPart : GoodIn wsX7_mostCompleted wsX7_hasPart := goodIn_r _ [20, 21, 13, 14, 15, 9, 16, 1, 22, 23, 24, 25, 26, 27] (by decide +kernel) (by decide +kernel)
set_option maxRecDepth 20000 in
theorem gX7_mostCompleted_X7_hasPart : GoodIn wsX7_mostCompleted (wsV RX7 61 RX7 yX7_hasPart wsX7_hasPart) := goodIn_app (goodIn_of _ (by decide +kernel)) ggX7_mostCompleted_X7_hasPart
theorem dX7_mostCompleted_0 : decode cX7_mostCompleted 0 = .ok (.bipush 16, 2) := by decide +kernel
theorem dX7_mostCompleted_2 : decode cX7_mostCompleted 2 = .ok (.istore_n 3, 1) := by decide +kernel
theorem dX7_mostCompleted_3 : decode cX7_mostCompleted 3 = .ok (.iconst 0, 1) := by decide +kernel
theorem dX7_mostCompleted_4 : decode cX7_mostCompleted 4 = .ok (.istore 4, 2) := by decide +kernel
theorem dX7_mostCompleted_6 : decode cX7_mostCompleted 6 = .ok (.iload 4, 2) := by decide +kernel
theorem dX7_mostCompleted_8 : decode cX7_mostCompleted 8 = .ok (.iconst 3, 1) := by decide +kernel
theorem dX7_mostCompleted_9 : decode cX7_mostCompleted 9 = .ok (.if_icmp .ge 69, 3) := by decide +kernel
theorem dX7_mostCompleted_12 : decode cX7_mostCompleted 12 = .ok (.iconst 0, 1) := by decide +kernel
theorem dX7_mostCompleted_13 : decode cX7_mostCompleted 13 = .ok (.istore 5, 2) := by decide +kernel
theorem dX7_mostCompleted_15 : decode cX7_mostCompleted 15 = .ok (.iconst 0, 1) := by decide +kernel
theorem dX7_mostCompleted_16 : decode cX7_mostCompleted 16 = .ok (.istore 6, 2) := by decide +kernel
theorem dX7_mostCompleted_18 : decode cX7_mostCompleted 18 = .ok (.iload 6, 2) := by decide +kernel
theorem dX7_mostCompleted_20 : decode cX7_mostCompleted 20 = .ok (.aload_n 0, 1) := by decide +kernel
theorem dX7_mostCompleted_21 : decode cX7_mostCompleted 21 = .ok (.getfield 33, 3) := by decide +kernel
theorem dX7_mostCompleted_24 : decode cX7_mostCompleted 24 = .ok (.if_icmp .ge 41, 3) := by decide +kernel
theorem dX7_mostCompleted_27 : decode cX7_mostCompleted 27 = .ok (.iload 5, 2) := by decide +kernel
theorem dX7_mostCompleted_29 : decode cX7_mostCompleted 29 = .ok (.aload_n 0, 1) := by decide +kernel
theorem dX7_mostCompleted_30 : decode cX7_mostCompleted 30 = .ok (.iload 6, 2) := by decide +kernel
theorem dX7_mostCompleted_32 : decode cX7_mostCompleted 32 = .ok (.iload_n 2, 1) := by decide +kernel
theorem dX7_mostCompleted_33 : decode cX7_mostCompleted 33 = .ok (.iload_n 1, 1) := by decide +kernel
theorem dX7_mostCompleted_34 : decode cX7_mostCompleted 34 = .ok (.invokevirtual 57, 3) := by decide +kernel
theorem dX7_mostCompleted_37 : decode cX7_mostCompleted 37 = .ok (.ifCond .eq 18, 3) := by decide +kernel
theorem dX7_mostCompleted_40 : decode cX7_mostCompleted 40 = .ok (.aload_n 0, 1) := by decide +kernel
theorem dX7_mostCompleted_41 : decode cX7_mostCompleted 41 = .ok (.iload 6, 2) := by decide +kernel
theorem dX7_mostCompleted_43 : decode cX7_mostCompleted 43 = .ok (.iload 4, 2) := by decide +kernel
theorem dX7_mostCompleted_45 : decode cX7_mostCompleted 45 = .ok (.invokevirtual 61, 3) := by decide +kernel
theorem dX7_mostCompleted_48 : decode cX7_mostCompleted 48 = .ok (.ifCond .eq 7, 3) := by decide +kernel
theorem dX7_mostCompleted_51 : decode cX7_mostCompleted 51 = .ok (.iconst 1, 1) := by decide +kernel
theorem dX7_mostCompleted_52 : decode cX7_mostCompleted 52 = .ok (.goto 4, 3) := by decide +kernel
theorem dX7_mostCompleted_55 : decode cX7_mostCompleted 55 = .ok (.iconst 0, 1) := by decide +kernel
theorem dX7_mostCompleted_56 : decode cX7_mostCompleted 56 = .ok (.iadd, 1) := by decide +kernel
theorem dX7_mostCompleted_57 : decode cX7_mostCompleted 57 = .ok (.istore 5, 2) := by decide +kernel
theorem dX7_mostCompleted_59 : decode cX7_mostCompleted 59 = .ok (.iinc 6 1, 3) := by decide +kernel
theorem dX7_mostCompleted_62 : decode cX7_mostCompleted 62 = .ok (.goto (-44), 3) := by decide +kernel
theorem dX7_mostCompleted_65 : decode cX7_mostCompleted 65 = .ok (.iload_n 3, 1) := by decide +kernel
theorem dX7_mostCompleted_66 : decode cX7_mostCompleted 66 = .ok (.iload 5, 2) := by decide +kernel
theorem dX7_mostCompleted_68 : decode cX7_mostCompleted 68 = .ok (.invokestatic 65, 3) := by decide +kernel
theorem dX7_mostCompleted_71 : decode cX7_mostCompleted 71 = .ok (.istore_n 3, 1) := by decide +kernel
theorem dX7_mostCompleted_72 : decode cX7_mostCompleted 72 = .ok (.iinc 4 1, 3) := by decide +kernel
theorem dX7_mostCompleted_75 : decode cX7_mostCompleted 75 = .ok (.goto (-69), 3) := by decide +kernel
theorem dX7_mostCompleted_78 : decode cX7_mostCompleted 78 = .ok (.iload_n 3, 1) := by decide +kernel
theorem dX7_mostCompleted_79 : decode cX7_mostCompleted 79 = .ok (.ireturn, 1) := by decide +kernel
set_option maxRecDepth 20000 in
theorem ggX7_fewestTakings_X7_mostCompleted : GoodIn wsX7_fewestTakings wsX7_mostCompleted := goodIn_r _ [9, 10, 1, 2, 3, 4, 11, 12, 13, 8, 14, 15, 16, 17, 18, 19, 20, 21, 22, 23, 24, 25, 41, 42, 43, 44, 45, 46] (by decide +kernel) (by decide +kernel)
set_option maxRecDepth 20000 in
theorem gX7_fewestTakings_X7_mostCompleted : GoodIn wsX7_fewestTakings (wsV RX7 71 RX7 yX7_mostCompleted wsX7_mostCompleted) := goodIn_app (goodIn_of _ (by decide +kernel)) ggX7_fewestTakings_X7_mostCompleted
set_option maxRecDepth 20000 in
theorem ggX7_fewestTakings_X7_withGaps : GoodIn wsX7_fewestTakings wsX7_withGaps := goodIn_r _ [29, 10, 11, 12, 13, 8, 14, 15, 16, 17, 18, 19, 20, 30, 31, 32, 33, 25, 34, 35, 36, 37, 38, 39, 40, 41, 42, 43, 44, 45, 46] (by decide +kernel) (by decide +kernel)
set_option maxRecDepth 20000 in
theorem gX7_fewestTakings_X7_withGaps : GoodIn wsX7_fewestTakings (wsV RX7 74 RX7 yX7_withGaps wsX7_withGaps) := goodIn_app (goodIn_of _ (by decide +kernel)) ggX7_fewestTakings_X7_withGaps
theorem dX7_fewestTakings_0 : decode cX7_fewestTakings 0 = .ok (.aload_n 0, 1) := by decide +kernel
theorem dX7_fewestTakings_1 : decode cX7_fewestTakings 1 = .ok (.iload_n 1, 1) := by decide +kernel
theorem dX7_fewestTakings_2 : decode cX7_fewestTakings 2 = .ok (.iload_n 2, 1) := by decide +kernel
theorem dX7_fewestTakings_3 : decode cX7_fewestTakings 3 = .ok (.invokevirtual 71, 3) := by decide +kernel
theorem dX7_fewestTakings_6 : decode cX7_fewestTakings 6 = .ok (.istore_n 3, 1) := by decide +kernel
theorem dX7_fewestTakings_7 : decode cX7_fewestTakings 7 = .ok (.iconst 0, 1) := by decide +kernel
theorem dX7_fewestTakings_8 : decode cX7_fewestTakings 8 = .ok (.istore 4, 2) := by decide +kernel
theorem dX7_fewestTakings_10 : decode cX7_fewestTakings 10 = .ok (.iconst 0, 1) := by decide +kernel
theorem dX7_fewestTakings_11 : decode cX7_fewestTakings 11 = .ok (.istore 5, 2) := by decide +kernel
theorem dX7_fewestTakings_13 : decode cX7_fewestTakings 13 = .ok (.iload 5, 2) := by decide +kernel
theorem dX7_fewestTakings_15 : decode cX7_fewestTakings 15 = .ok (.iconst 3, 1) := by decide +kernel
theorem dX7_fewestTakings_16 : decode cX7_fewestTakings 16 = .ok (.if_icmp .gt 38, 3) := by decide +kernel
theorem dX7_fewestTakings_19 : decode cX7_fewestTakings 19 = .ok (.iload_n 3, 1) := by decide +kernel
theorem dX7_fewestTakings_20 : decode cX7_fewestTakings 20 = .ok (.aload_n 0, 1) := by decide +kernel
theorem dX7_fewestTakings_21 : decode cX7_fewestTakings 21 = .ok (.iload_n 1, 1) := by decide +kernel
theorem dX7_fewestTakings_22 : decode cX7_fewestTakings 22 = .ok (.iload_n 2, 1) := by decide +kernel
theorem dX7_fewestTakings_23 : decode cX7_fewestTakings 23 = .ok (.iload 5, 2) := by decide +kernel
theorem dX7_fewestTakings_25 : decode cX7_fewestTakings 25 = .ok (.invokevirtual 74, 3) := by decide +kernel
theorem dX7_fewestTakings_28 : decode cX7_fewestTakings 28 = .ok (.invokestatic 65, 3) := by decide +kernel
theorem dX7_fewestTakings_31 : decode cX7_fewestTakings 31 = .ok (.istore 6, 2) := by decide +kernel
theorem dX7_fewestTakings_33 : decode cX7_fewestTakings 33 = .ok (.iload 4, 2) := by decide +kernel
theorem dX7_fewestTakings_35 : decode cX7_fewestTakings 35 = .ok (.iload 6, 2) := by decide +kernel
theorem dX7_fewestTakings_37 : decode cX7_fewestTakings 37 = .ok (.iload 5, 2) := by decide +kernel
theorem dX7_fewestTakings_39 : decode cX7_fewestTakings 39 = .ok (.imul, 1) := by decide +kernel
theorem dX7_fewestTakings_40 : decode cX7_fewestTakings 40 = .ok (.iadd, 1) := by decide +kernel
theorem dX7_fewestTakings_41 : decode cX7_fewestTakings 41 = .ok (.istore 4, 2) := by decide +kernel
theorem dX7_fewestTakings_43 : decode cX7_fewestTakings 43 = .ok (.iload_n 3, 1) := by decide +kernel
theorem dX7_fewestTakings_44 : decode cX7_fewestTakings 44 = .ok (.iload 6, 2) := by decide +kernel
theorem dX7_fewestTakings_46 : decode cX7_fewestTakings 46 = .ok (.isub, 1) := by decide +kernel
theorem dX7_fewestTakings_47 : decode cX7_fewestTakings 47 = .ok (.istore_n 3, 1) := by decide +kernel
theorem dX7_fewestTakings_48 : decode cX7_fewestTakings 48 = .ok (.iinc 5 1, 3) := by decide +kernel
theorem dX7_fewestTakings_51 : decode cX7_fewestTakings 51 = .ok (.goto (-38), 3) := by decide +kernel
theorem dX7_fewestTakings_54 : decode cX7_fewestTakings 54 = .ok (.iload 4, 2) := by decide +kernel
theorem dX7_fewestTakings_56 : decode cX7_fewestTakings 56 = .ok (.ireturn, 1) := by decide +kernel
set_option maxRecDepth 20000 in
theorem ggX7_withGaps_X7_isOfKindAt : GoodIn wsX7_withGaps wsX7_isOfKindAt := goodIn_r _ [6, 7, 8, 9, 10, 11, 5, 12, 1, 25, 26, 27, 28, 29, 30] (by decide +kernel) (by decide +kernel)
set_option maxRecDepth 20000 in
theorem gX7_withGaps_X7_isOfKindAt : GoodIn wsX7_withGaps (wsV RX7 57 RX7 yX7_isOfKindAt wsX7_isOfKindAt) := goodIn_app (goodIn_of _ (by decide +kernel)) ggX7_withGaps_X7_isOfKindAt
set_option maxRecDepth 20000 in
theorem ggX7_withGaps_X7_missingParts : GoodIn wsX7_withGaps wsX7_missingParts := goodIn_r _ [16, 17, 9, 10, 11, 5, 12, 1, 18, 19, 20, 21, 22, 23, 24, 25, 26, 27, 28, 29, 30] (by decide +kernel) (by decide +kernel)
set_option maxRecDepth 20000 in
theorem gX7_withGaps_X7_missingParts : GoodIn wsX7_withGaps (wsV RX7 78 RX7 yX7_missingParts wsX7_missingParts) := goodIn_app (goodIn_of _ (by decide +kernel)) ggX7_withGaps_X7_missingParts
theorem dX7_withGaps_0 : decode cX7_withGaps 0 = .ok (.iconst 0, 1) := by decide +kernel
theorem dX7_withGaps_1 : decode cX7_withGaps 1 = .ok (.istore 4, 2) := by decide +kernel
theorem dX7_withGaps_3 : decode cX7_withGaps 3 = .ok (.iconst 0, 1) := by decide +kernel
theorem dX7_withGaps_4 : decode cX7_withGaps 4 = .ok (.istore 5, 2) := by decide +kernel
theorem dX7_withGaps_6 : decode cX7_withGaps 6 = .ok (.iload 5, 2) := by decide +kernel
theorem dX7_withGaps_8 : decode cX7_withGaps 8 = .ok (.aload_n 0, 1) := by decide +kernel
theorem dX7_withGaps_9 : decode cX7_withGaps 9 = .ok (.getfield 33, 3) := by decide +kernel
theorem dX7_withGaps_12 : decode cX7_withGaps 12 = .ok (.if_icmp .ge 40, 3) := by decide +kernel
theorem dX7_withGaps_15 : decode cX7_withGaps 15 = .ok (.iload 4, 2) := by decide +kernel
theorem dX7_withGaps_17 : decode cX7_withGaps 17 = .ok (.aload_n 0, 1) := by decide +kernel
theorem dX7_withGaps_18 : decode cX7_withGaps 18 = .ok (.iload 5, 2) := by decide +kernel
theorem dX7_withGaps_20 : decode cX7_withGaps 20 = .ok (.iload_n 2, 1) := by decide +kernel
theorem dX7_withGaps_21 : decode cX7_withGaps 21 = .ok (.iload_n 1, 1) := by decide +kernel
theorem dX7_withGaps_22 : decode cX7_withGaps 22 = .ok (.invokevirtual 57, 3) := by decide +kernel
theorem dX7_withGaps_25 : decode cX7_withGaps 25 = .ok (.ifCond .eq 17, 3) := by decide +kernel
theorem dX7_withGaps_28 : decode cX7_withGaps 28 = .ok (.aload_n 0, 1) := by decide +kernel
theorem dX7_withGaps_29 : decode cX7_withGaps 29 = .ok (.iload 5, 2) := by decide +kernel
theorem dX7_withGaps_31 : decode cX7_withGaps 31 = .ok (.invokevirtual 78, 3) := by decide +kernel
theorem dX7_withGaps_34 : decode cX7_withGaps 34 = .ok (.iload_n 3, 1) := by decide +kernel
theorem dX7_withGaps_35 : decode cX7_withGaps 35 = .ok (.if_icmp .ne 7, 3) := by decide +kernel
theorem dX7_withGaps_38 : decode cX7_withGaps 38 = .ok (.iconst 1, 1) := by decide +kernel
theorem dX7_withGaps_39 : decode cX7_withGaps 39 = .ok (.goto 4, 3) := by decide +kernel
theorem dX7_withGaps_42 : decode cX7_withGaps 42 = .ok (.iconst 0, 1) := by decide +kernel
theorem dX7_withGaps_43 : decode cX7_withGaps 43 = .ok (.iadd, 1) := by decide +kernel
theorem dX7_withGaps_44 : decode cX7_withGaps 44 = .ok (.istore 4, 2) := by decide +kernel
theorem dX7_withGaps_46 : decode cX7_withGaps 46 = .ok (.iinc 5 1, 3) := by decide +kernel
theorem dX7_withGaps_49 : decode cX7_withGaps 49 = .ok (.goto (-43), 3) := by decide +kernel
theorem dX7_withGaps_52 : decode cX7_withGaps 52 = .ok (.iload 4, 2) := by decide +kernel
theorem dX7_withGaps_54 : decode cX7_withGaps 54 = .ok (.ireturn, 1) := by decide +kernel
theorem dX0_init_0 : decode cX0_init 0 = .ok (.aload_n 0, 1) := by decide +kernel
theorem dX0_init_1 : decode cX0_init 1 = .ok (.invokespecial 3, 3) := by decide +kernel
theorem dX0_init_4 : decode cX0_init 4 = .ok (.aload_n 0, 1) := by decide +kernel
theorem dX0_init_5 : decode cX0_init 5 = .ok (.bipush 30, 2) := by decide +kernel
theorem dX0_init_7 : decode cX0_init 7 = .ok (.newarray .int, 2) := by decide +kernel
theorem dX0_init_9 : decode cX0_init 9 = .ok (.putfield 9, 3) := by decide +kernel
theorem dX0_init_12 : decode cX0_init 12 = .ok (.aload_n 0, 1) := by decide +kernel
theorem dX0_init_13 : decode cX0_init 13 = .ok (.bipush 30, 2) := by decide +kernel
theorem dX0_init_15 : decode cX0_init 15 = .ok (.newarray .int, 2) := by decide +kernel
theorem dX0_init_17 : decode cX0_init 17 = .ok (.putfield 15, 3) := by decide +kernel
theorem dX0_init_20 : decode cX0_init 20 = .ok (.aload_n 0, 1) := by decide +kernel
theorem dX0_init_21 : decode cX0_init 21 = .ok (.iconst 5, 1) := by decide +kernel
theorem dX0_init_22 : decode cX0_init 22 = .ok (.newarray .int, 2) := by decide +kernel
theorem dX0_init_24 : decode cX0_init 24 = .ok (.putfield 18, 3) := by decide +kernel
theorem dX0_init_27 : decode cX0_init 27 = .ok (.return_, 1) := by decide +kernel
theorem dX0_clear_0 : decode cX0_clear 0 = .ok (.iconst 0, 1) := by decide +kernel
theorem dX0_clear_1 : decode cX0_clear 1 = .ok (.istore_n 1, 1) := by decide +kernel
theorem dX0_clear_2 : decode cX0_clear 2 = .ok (.iload_n 1, 1) := by decide +kernel
theorem dX0_clear_3 : decode cX0_clear 3 = .ok (.iconst 5, 1) := by decide +kernel
theorem dX0_clear_4 : decode cX0_clear 4 = .ok (.if_icmp .ge 16, 3) := by decide +kernel
theorem dX0_clear_7 : decode cX0_clear 7 = .ok (.aload_n 0, 1) := by decide +kernel
theorem dX0_clear_8 : decode cX0_clear 8 = .ok (.getfield 18, 3) := by decide +kernel
theorem dX0_clear_11 : decode cX0_clear 11 = .ok (.iload_n 1, 1) := by decide +kernel
theorem dX0_clear_12 : decode cX0_clear 12 = .ok (.iconst 0, 1) := by decide +kernel
theorem dX0_clear_13 : decode cX0_clear 13 = .ok (.iastore, 1) := by decide +kernel
theorem dX0_clear_14 : decode cX0_clear 14 = .ok (.iinc 1 1, 3) := by decide +kernel
theorem dX0_clear_17 : decode cX0_clear 17 = .ok (.goto (-15), 3) := by decide +kernel
theorem dX0_clear_20 : decode cX0_clear 20 = .ok (.return_, 1) := by decide +kernel
theorem dX0_copyFrom_0 : decode cX0_copyFrom 0 = .ok (.aload_n 1, 1) := by decide +kernel
theorem dX0_copyFrom_1 : decode cX0_copyFrom 1 = .ok (.getfield 9, 3) := by decide +kernel
theorem dX0_copyFrom_4 : decode cX0_copyFrom 4 = .ok (.iconst 0, 1) := by decide +kernel
theorem dX0_copyFrom_5 : decode cX0_copyFrom 5 = .ok (.aload_n 0, 1) := by decide +kernel
theorem dX0_copyFrom_6 : decode cX0_copyFrom 6 = .ok (.getfield 9, 3) := by decide +kernel
theorem dX0_copyFrom_9 : decode cX0_copyFrom 9 = .ok (.iconst 0, 1) := by decide +kernel
theorem dX0_copyFrom_10 : decode cX0_copyFrom 10 = .ok (.bipush 30, 2) := by decide +kernel
theorem dX0_copyFrom_12 : decode cX0_copyFrom 12 = .ok (.invokestatic 21, 3) := by decide +kernel
theorem dX0_copyFrom_15 : decode cX0_copyFrom 15 = .ok (.aload_n 1, 1) := by decide +kernel
theorem dX0_copyFrom_16 : decode cX0_copyFrom 16 = .ok (.getfield 15, 3) := by decide +kernel
theorem dX0_copyFrom_19 : decode cX0_copyFrom 19 = .ok (.iconst 0, 1) := by decide +kernel
theorem dX0_copyFrom_20 : decode cX0_copyFrom 20 = .ok (.aload_n 0, 1) := by decide +kernel
theorem dX0_copyFrom_21 : decode cX0_copyFrom 21 = .ok (.getfield 15, 3) := by decide +kernel
theorem dX0_copyFrom_24 : decode cX0_copyFrom 24 = .ok (.iconst 0, 1) := by decide +kernel
theorem dX0_copyFrom_25 : decode cX0_copyFrom 25 = .ok (.bipush 30, 2) := by decide +kernel
theorem dX0_copyFrom_27 : decode cX0_copyFrom 27 = .ok (.invokestatic 21, 3) := by decide +kernel
theorem dX0_copyFrom_30 : decode cX0_copyFrom 30 = .ok (.aload_n 1, 1) := by decide +kernel
theorem dX0_copyFrom_31 : decode cX0_copyFrom 31 = .ok (.getfield 18, 3) := by decide +kernel
theorem dX0_copyFrom_34 : decode cX0_copyFrom 34 = .ok (.iconst 0, 1) := by decide +kernel
theorem dX0_copyFrom_35 : decode cX0_copyFrom 35 = .ok (.aload_n 0, 1) := by decide +kernel
theorem dX0_copyFrom_36 : decode cX0_copyFrom 36 = .ok (.getfield 18, 3) := by decide +kernel
theorem dX0_copyFrom_39 : decode cX0_copyFrom 39 = .ok (.iconst 0, 1) := by decide +kernel
theorem dX0_copyFrom_40 : decode cX0_copyFrom 40 = .ok (.iconst 5, 1) := by decide +kernel
theorem dX0_copyFrom_41 : decode cX0_copyFrom 41 = .ok (.invokestatic 21, 3) := by decide +kernel
theorem dX0_copyFrom_44 : decode cX0_copyFrom 44 = .ok (.return_, 1) := by decide +kernel
theorem ggX0_owes_X8_isHolder : GoodIn wsX0_owes wsX8_isHolder := goodIn_r _ [4] (by decide +kernel) (by decide +kernel)
set_option maxRecDepth 20000 in
theorem gX0_owes_X8_isHolder_n27 : GoodIn wsX0_owes (wsX8_isHolder) := ggX0_owes_X8_isHolder
theorem dX0_owes_0 : decode cX0_owes 0 = .ok (.iload_n 1, 1) := by decide +kernel
theorem dX0_owes_1 : decode cX0_owes 1 = .ok (.invokestatic 27, 3) := by decide +kernel
theorem dX0_owes_4 : decode cX0_owes 4 = .ok (.ifCond .eq 27, 3) := by decide +kernel
theorem dX0_owes_7 : decode cX0_owes 7 = .ok (.iload_n 2, 1) := by decide +kernel
theorem dX0_owes_8 : decode cX0_owes 8 = .ok (.ifCond .lt 23, 3) := by decide +kernel
theorem dX0_owes_11 : decode cX0_owes 11 = .ok (.iload_n 2, 1) := by decide +kernel
theorem dX0_owes_12 : decode cX0_owes 12 = .ok (.aload_n 0, 1) := by decide +kernel
theorem dX0_owes_13 : decode cX0_owes 13 = .ok (.getfield 18, 3) := by decide +kernel
theorem dX0_owes_16 : decode cX0_owes 16 = .ok (.iload_n 1, 1) := by decide +kernel
theorem dX0_owes_17 : decode cX0_owes 17 = .ok (.iaload, 1) := by decide +kernel
theorem dX0_owes_18 : decode cX0_owes 18 = .ok (.if_icmp .ge 13, 3) := by decide +kernel
theorem dX0_owes_21 : decode cX0_owes 21 = .ok (.iload_n 2, 1) := by decide +kernel
theorem dX0_owes_22 : decode cX0_owes 22 = .ok (.bipush 6, 2) := by decide +kernel
theorem dX0_owes_24 : decode cX0_owes 24 = .ok (.if_icmp .ge 7, 3) := by decide +kernel
theorem dX0_owes_27 : decode cX0_owes 27 = .ok (.iconst 1, 1) := by decide +kernel
theorem dX0_owes_28 : decode cX0_owes 28 = .ok (.goto 4, 3) := by decide +kernel
theorem dX0_owes_31 : decode cX0_owes 31 = .ok (.iconst 0, 1) := by decide +kernel
theorem dX0_owes_32 : decode cX0_owes 32 = .ok (.ireturn, 1) := by decide +kernel
set_option maxRecDepth 20000 in
theorem ggX0_hasRoom_X8_isHolder : GoodIn wsX0_hasRoom wsX8_isHolder := goodIn_r _ [4] (by decide +kernel) (by decide +kernel)
set_option maxRecDepth 20000 in
theorem gX0_hasRoom_X8_isHolder_n27 : GoodIn wsX0_hasRoom (wsX8_isHolder) := ggX0_hasRoom_X8_isHolder
theorem dX0_hasRoom_0 : decode cX0_hasRoom 0 = .ok (.iload_n 1, 1) := by decide +kernel
theorem dX0_hasRoom_1 : decode cX0_hasRoom 1 = .ok (.invokestatic 27, 3) := by decide +kernel
theorem dX0_hasRoom_4 : decode cX0_hasRoom 4 = .ok (.ifCond .eq 18, 3) := by decide +kernel
theorem dX0_hasRoom_7 : decode cX0_hasRoom 7 = .ok (.aload_n 0, 1) := by decide +kernel
theorem dX0_hasRoom_8 : decode cX0_hasRoom 8 = .ok (.getfield 18, 3) := by decide +kernel
theorem dX0_hasRoom_11 : decode cX0_hasRoom 11 = .ok (.iload_n 1, 1) := by decide +kernel
theorem dX0_hasRoom_12 : decode cX0_hasRoom 12 = .ok (.iaload, 1) := by decide +kernel
theorem dX0_hasRoom_13 : decode cX0_hasRoom 13 = .ok (.bipush 6, 2) := by decide +kernel
theorem dX0_hasRoom_15 : decode cX0_hasRoom 15 = .ok (.if_icmp .ge 7, 3) := by decide +kernel
theorem dX0_hasRoom_18 : decode cX0_hasRoom 18 = .ok (.iconst 1, 1) := by decide +kernel
theorem dX0_hasRoom_19 : decode cX0_hasRoom 19 = .ok (.goto 4, 3) := by decide +kernel
theorem dX0_hasRoom_22 : decode cX0_hasRoom 22 = .ok (.iconst 0, 1) := by decide +kernel
theorem dX0_hasRoom_23 : decode cX0_hasRoom 23 = .ok (.ireturn, 1) := by decide +kernel
set_option maxRecDepth 20000 in
theorem ggX0_kindOf_X0_owes : GoodIn wsX0_kindOf wsX0_owes := goodIn_r _ [6, 7, 8, 9, 10, 11, 12, 13] (by decide +kernel) (by decide +kernel)
set_option maxRecDepth 20000 in
theorem gX0_kindOf_X0_owes : GoodIn wsX0_kindOf (wsV RX0 31 RX0 yX0_owes wsX0_owes) := goodIn_app (goodIn_of _ (by decide +kernel)) ggX0_kindOf_X0_owes
theorem dX0_kindOf_0 : decode cX0_kindOf 0 = .ok (.aload_n 0, 1) := by decide +kernel
theorem dX0_kindOf_1 : decode cX0_kindOf 1 = .ok (.iload_n 1, 1) := by decide +kernel
theorem dX0_kindOf_2 : decode cX0_kindOf 2 = .ok (.iload_n 2, 1) := by decide +kernel
theorem dX0_kindOf_3 : decode cX0_kindOf 3 = .ok (.invokevirtual 31, 3) := by decide +kernel
theorem dX0_kindOf_6 : decode cX0_kindOf 6 = .ok (.ifCond .eq 17, 3) := by decide +kernel
theorem dX0_kindOf_9 : decode cX0_kindOf 9 = .ok (.aload_n 0, 1) := by decide +kernel
theorem dX0_kindOf_10 : decode cX0_kindOf 10 = .ok (.getfield 9, 3) := by decide +kernel
theorem dX0_kindOf_13 : decode cX0_kindOf 13 = .ok (.iload_n 1, 1) := by decide +kernel
theorem dX0_kindOf_14 : decode cX0_kindOf 14 = .ok (.bipush 6, 2) := by decide +kernel
theorem dX0_kindOf_16 : decode cX0_kindOf 16 = .ok (.imul, 1) := by decide +kernel
theorem dX0_kindOf_17 : decode cX0_kindOf 17 = .ok (.iload_n 2, 1) := by decide +kernel
theorem dX0_kindOf_18 : decode cX0_kindOf 18 = .ok (.iadd, 1) := by decide +kernel
theorem dX0_kindOf_19 : decode cX0_kindOf 19 = .ok (.iaload, 1) := by decide +kernel
theorem dX0_kindOf_20 : decode cX0_kindOf 20 = .ok (.goto 4, 3) := by decide +kernel
theorem dX0_kindOf_23 : decode cX0_kindOf 23 = .ok (.iconst (-1), 1) := by decide +kernel
theorem dX0_kindOf_24 : decode cX0_kindOf 24 = .ok (.ireturn, 1) := by decide +kernel
set_option maxRecDepth 20000 in
theorem ggX0_dueOf_X0_owes : GoodIn wsX0_dueOf wsX0_owes := goodIn_r _ [6, 7, 8, 9, 10, 11, 12, 13] (by decide +kernel) (by decide +kernel)
set_option maxRecDepth 20000 in
theorem gX0_dueOf_X0_owes : GoodIn wsX0_dueOf (wsV RX0 31 RX0 yX0_owes wsX0_owes) := goodIn_app (goodIn_of _ (by decide +kernel)) ggX0_dueOf_X0_owes
theorem dX0_dueOf_0 : decode cX0_dueOf 0 = .ok (.aload_n 0, 1) := by decide +kernel
theorem dX0_dueOf_1 : decode cX0_dueOf 1 = .ok (.iload_n 1, 1) := by decide +kernel
theorem dX0_dueOf_2 : decode cX0_dueOf 2 = .ok (.iload_n 2, 1) := by decide +kernel
theorem dX0_dueOf_3 : decode cX0_dueOf 3 = .ok (.invokevirtual 31, 3) := by decide +kernel
theorem dX0_dueOf_6 : decode cX0_dueOf 6 = .ok (.ifCond .eq 17, 3) := by decide +kernel
theorem dX0_dueOf_9 : decode cX0_dueOf 9 = .ok (.aload_n 0, 1) := by decide +kernel
theorem dX0_dueOf_10 : decode cX0_dueOf 10 = .ok (.getfield 15, 3) := by decide +kernel
theorem dX0_dueOf_13 : decode cX0_dueOf 13 = .ok (.iload_n 1, 1) := by decide +kernel
theorem dX0_dueOf_14 : decode cX0_dueOf 14 = .ok (.bipush 6, 2) := by decide +kernel
theorem dX0_dueOf_16 : decode cX0_dueOf 16 = .ok (.imul, 1) := by decide +kernel
theorem dX0_dueOf_17 : decode cX0_dueOf 17 = .ok (.iload_n 2, 1) := by decide +kernel
theorem dX0_dueOf_18 : decode cX0_dueOf 18 = .ok (.iadd, 1) := by decide +kernel
theorem dX0_dueOf_19 : decode cX0_dueOf 19 = .ok (.iaload, 1) := by decide +kernel
theorem dX0_dueOf_20 : decode cX0_dueOf 20 = .ok (.goto 4, 3) := by decide +kernel
theorem dX0_dueOf_23 : decode cX0_dueOf 23 = .ok (.iconst (-1), 1) := by decide +kernel
theorem dX0_dueOf_24 : decode cX0_dueOf 24 = .ok (.ireturn, 1) := by decide +kernel
set_option maxRecDepth 20000 in
theorem ggX0_oldest_X0_kindOf : GoodIn wsX0_oldest wsX0_kindOf := goodIn_r _ [5, 6, 7, 8, 9, 4, 10, 11, 12, 13, 14, 15, 16, 17] (by decide +kernel) (by decide +kernel)
set_option maxRecDepth 20000 in
theorem gX0_oldest_X0_kindOf : GoodIn wsX0_oldest (wsV RX0 35 RX0 yX0_kindOf wsX0_kindOf) := goodIn_app (goodIn_of _ (by decide +kernel)) ggX0_oldest_X0_kindOf
theorem dX0_oldest_0 : decode cX0_oldest 0 = .ok (.iconst 0, 1) := by decide +kernel
theorem dX0_oldest_1 : decode cX0_oldest 1 = .ok (.istore_n 3, 1) := by decide +kernel
theorem dX0_oldest_2 : decode cX0_oldest 2 = .ok (.iload_n 3, 1) := by decide +kernel
theorem dX0_oldest_3 : decode cX0_oldest 3 = .ok (.bipush 6, 2) := by decide +kernel
theorem dX0_oldest_5 : decode cX0_oldest 5 = .ok (.if_icmp .ge 21, 3) := by decide +kernel
theorem dX0_oldest_8 : decode cX0_oldest 8 = .ok (.aload_n 0, 1) := by decide +kernel
theorem dX0_oldest_9 : decode cX0_oldest 9 = .ok (.iload_n 1, 1) := by decide +kernel
theorem dX0_oldest_10 : decode cX0_oldest 10 = .ok (.iload_n 3, 1) := by decide +kernel
theorem dX0_oldest_11 : decode cX0_oldest 11 = .ok (.invokevirtual 35, 3) := by decide +kernel
theorem dX0_oldest_14 : decode cX0_oldest 14 = .ok (.iload_n 2, 1) := by decide +kernel
theorem dX0_oldest_15 : decode cX0_oldest 15 = .ok (.if_icmp .ne 5, 3) := by decide +kernel
theorem dX0_oldest_18 : decode cX0_oldest 18 = .ok (.iload_n 3, 1) := by decide +kernel
theorem dX0_oldest_19 : decode cX0_oldest 19 = .ok (.ireturn, 1) := by decide +kernel
theorem dX0_oldest_20 : decode cX0_oldest 20 = .ok (.iinc 3 1, 3) := by decide +kernel
theorem dX0_oldest_23 : decode cX0_oldest 23 = .ok (.goto (-21), 3) := by decide +kernel
theorem dX0_oldest_26 : decode cX0_oldest 26 = .ok (.iconst (-1), 1) := by decide +kernel
theorem dX0_oldest_27 : decode cX0_oldest 27 = .ok (.ireturn, 1) := by decide +kernel
set_option maxRecDepth 20000 in
theorem ggX0_add_X0_hasRoom : GoodIn wsX0_add wsX0_hasRoom := goodIn_r _ [8, 1, 9, 10, 11, 12, 13, 14] (by decide +kernel) (by decide +kernel)
set_option maxRecDepth 20000 in
theorem gX0_add_X0_hasRoom : GoodIn wsX0_add (wsV RX0 39 RX0 yX0_hasRoom wsX0_hasRoom) := goodIn_app (goodIn_of _ (by decide +kernel)) ggX0_add_X0_hasRoom
theorem dX0_add_0 : decode cX0_add 0 = .ok (.aload_n 0, 1) := by decide +kernel
theorem dX0_add_1 : decode cX0_add 1 = .ok (.iload_n 1, 1) := by decide +kernel
theorem dX0_add_2 : decode cX0_add 2 = .ok (.invokevirtual 39, 3) := by decide +kernel
theorem dX0_add_5 : decode cX0_add 5 = .ok (.ifCond .eq 42, 3) := by decide +kernel
theorem dX0_add_8 : decode cX0_add 8 = .ok (.iload_n 1, 1) := by decide +kernel
theorem dX0_add_9 : decode cX0_add 9 = .ok (.bipush 6, 2) := by decide +kernel
theorem dX0_add_11 : decode cX0_add 11 = .ok (.imul, 1) := by decide +kernel
theorem dX0_add_12 : decode cX0_add 12 = .ok (.aload_n 0, 1) := by decide +kernel
theorem dX0_add_13 : decode cX0_add 13 = .ok (.getfield 18, 3) := by decide +kernel
theorem dX0_add_16 : decode cX0_add 16 = .ok (.iload_n 1, 1) := by decide +kernel
theorem dX0_add_17 : decode cX0_add 17 = .ok (.iaload, 1) := by decide +kernel
theorem dX0_add_18 : decode cX0_add 18 = .ok (.iadd, 1) := by decide +kernel
theorem dX0_add_19 : decode cX0_add 19 = .ok (.istore 4, 2) := by decide +kernel
theorem dX0_add_21 : decode cX0_add 21 = .ok (.aload_n 0, 1) := by decide +kernel
theorem dX0_add_22 : decode cX0_add 22 = .ok (.getfield 9, 3) := by decide +kernel
theorem dX0_add_25 : decode cX0_add 25 = .ok (.iload 4, 2) := by decide +kernel
theorem dX0_add_27 : decode cX0_add 27 = .ok (.iload_n 2, 1) := by decide +kernel
theorem dX0_add_28 : decode cX0_add 28 = .ok (.iastore, 1) := by decide +kernel
theorem dX0_add_29 : decode cX0_add 29 = .ok (.aload_n 0, 1) := by decide +kernel
theorem dX0_add_30 : decode cX0_add 30 = .ok (.getfield 15, 3) := by decide +kernel
theorem dX0_add_33 : decode cX0_add 33 = .ok (.iload 4, 2) := by decide +kernel
theorem dX0_add_35 : decode cX0_add 35 = .ok (.iload_n 3, 1) := by decide +kernel
theorem dX0_add_36 : decode cX0_add 36 = .ok (.iastore, 1) := by decide +kernel
theorem dX0_add_37 : decode cX0_add 37 = .ok (.aload_n 0, 1) := by decide +kernel
theorem dX0_add_38 : decode cX0_add 38 = .ok (.getfield 18, 3) := by decide +kernel
theorem dX0_add_41 : decode cX0_add 41 = .ok (.iload_n 1, 1) := by decide +kernel
theorem dX0_add_42 : decode cX0_add 42 = .ok (.dup2, 1) := by decide +kernel
theorem dX0_add_43 : decode cX0_add 43 = .ok (.iaload, 1) := by decide +kernel
theorem dX0_add_44 : decode cX0_add 44 = .ok (.iconst 1, 1) := by decide +kernel
theorem dX0_add_45 : decode cX0_add 45 = .ok (.iadd, 1) := by decide +kernel
theorem dX0_add_46 : decode cX0_add 46 = .ok (.iastore, 1) := by decide +kernel
theorem dX0_add_47 : decode cX0_add 47 = .ok (.return_, 1) := by decide +kernel
set_option maxRecDepth 20000 in
theorem ggX0_remove_X0_owes : GoodIn wsX0_remove wsX0_owes := goodIn_r _ [8, 1, 9, 10, 11, 12, 13, 14] (by decide +kernel) (by decide +kernel)
set_option maxRecDepth 20000 in
theorem gX0_remove_X0_owes : GoodIn wsX0_remove (wsV RX0 31 RX0 yX0_owes wsX0_owes) := goodIn_app (goodIn_of _ (by decide +kernel)) ggX0_remove_X0_owes
theorem dX0_remove_0 : decode cX0_remove 0 = .ok (.aload_n 0, 1) := by decide +kernel
theorem dX0_remove_1 : decode cX0_remove 1 = .ok (.iload_n 1, 1) := by decide +kernel
theorem dX0_remove_2 : decode cX0_remove 2 = .ok (.iload_n 2, 1) := by decide +kernel
theorem dX0_remove_3 : decode cX0_remove 3 = .ok (.invokevirtual 31, 3) := by decide +kernel
theorem dX0_remove_6 : decode cX0_remove 6 = .ok (.ifCond .ne 4, 3) := by decide +kernel
theorem dX0_remove_9 : decode cX0_remove 9 = .ok (.return_, 1) := by decide +kernel
theorem dX0_remove_10 : decode cX0_remove 10 = .ok (.iload_n 2, 1) := by decide +kernel
theorem dX0_remove_11 : decode cX0_remove 11 = .ok (.istore_n 3, 1) := by decide +kernel
theorem dX0_remove_12 : decode cX0_remove 12 = .ok (.iload_n 3, 1) := by decide +kernel
theorem dX0_remove_13 : decode cX0_remove 13 = .ok (.iconst 1, 1) := by decide +kernel
theorem dX0_remove_14 : decode cX0_remove 14 = .ok (.iadd, 1) := by decide +kernel
theorem dX0_remove_15 : decode cX0_remove 15 = .ok (.aload_n 0, 1) := by decide +kernel
theorem dX0_remove_16 : decode cX0_remove 16 = .ok (.getfield 18, 3) := by decide +kernel
theorem dX0_remove_19 : decode cX0_remove 19 = .ok (.iload_n 1, 1) := by decide +kernel
theorem dX0_remove_20 : decode cX0_remove 20 = .ok (.iaload, 1) := by decide +kernel
theorem dX0_remove_21 : decode cX0_remove 21 = .ok (.if_icmp .ge 49, 3) := by decide +kernel
theorem dX0_remove_24 : decode cX0_remove 24 = .ok (.iload_n 1, 1) := by decide +kernel
theorem dX0_remove_25 : decode cX0_remove 25 = .ok (.bipush 6, 2) := by decide +kernel
theorem dX0_remove_27 : decode cX0_remove 27 = .ok (.imul, 1) := by decide +kernel
theorem dX0_remove_28 : decode cX0_remove 28 = .ok (.iload_n 3, 1) := by decide +kernel
theorem dX0_remove_29 : decode cX0_remove 29 = .ok (.iadd, 1) := by decide +kernel
theorem dX0_remove_30 : decode cX0_remove 30 = .ok (.istore 4, 2) := by decide +kernel
theorem dX0_remove_32 : decode cX0_remove 32 = .ok (.aload_n 0, 1) := by decide +kernel
theorem dX0_remove_33 : decode cX0_remove 33 = .ok (.getfield 9, 3) := by decide +kernel
theorem dX0_remove_36 : decode cX0_remove 36 = .ok (.iload 4, 2) := by decide +kernel
theorem dX0_remove_38 : decode cX0_remove 38 = .ok (.aload_n 0, 1) := by decide +kernel
theorem dX0_remove_39 : decode cX0_remove 39 = .ok (.getfield 9, 3) := by decide +kernel
theorem dX0_remove_42 : decode cX0_remove 42 = .ok (.iload 4, 2) := by decide +kernel
theorem dX0_remove_44 : decode cX0_remove 44 = .ok (.iconst 1, 1) := by decide +kernel
theorem dX0_remove_45 : decode cX0_remove 45 = .ok (.iadd, 1) := by decide +kernel
theorem dX0_remove_46 : decode cX0_remove 46 = .ok (.iaload, 1) := by decide +kernel
theorem dX0_remove_47 : decode cX0_remove 47 = .ok (.iastore, 1) := by decide +kernel
theorem dX0_remove_48 : decode cX0_remove 48 = .ok (.aload_n 0, 1) := by decide +kernel
theorem dX0_remove_49 : decode cX0_remove 49 = .ok (.getfield 15, 3) := by decide +kernel
theorem dX0_remove_52 : decode cX0_remove 52 = .ok (.iload 4, 2) := by decide +kernel
theorem dX0_remove_54 : decode cX0_remove 54 = .ok (.aload_n 0, 1) := by decide +kernel
theorem dX0_remove_55 : decode cX0_remove 55 = .ok (.getfield 15, 3) := by decide +kernel
theorem dX0_remove_58 : decode cX0_remove 58 = .ok (.iload 4, 2) := by decide +kernel
theorem dX0_remove_60 : decode cX0_remove 60 = .ok (.iconst 1, 1) := by decide +kernel
theorem dX0_remove_61 : decode cX0_remove 61 = .ok (.iadd, 1) := by decide +kernel
theorem dX0_remove_62 : decode cX0_remove 62 = .ok (.iaload, 1) := by decide +kernel
theorem dX0_remove_63 : decode cX0_remove 63 = .ok (.iastore, 1) := by decide +kernel
theorem dX0_remove_64 : decode cX0_remove 64 = .ok (.iinc 3 1, 3) := by decide +kernel
theorem dX0_remove_67 : decode cX0_remove 67 = .ok (.goto (-55), 3) := by decide +kernel
theorem dX0_remove_70 : decode cX0_remove 70 = .ok (.aload_n 0, 1) := by decide +kernel
theorem dX0_remove_71 : decode cX0_remove 71 = .ok (.getfield 18, 3) := by decide +kernel
theorem dX0_remove_74 : decode cX0_remove 74 = .ok (.iload_n 1, 1) := by decide +kernel
theorem dX0_remove_75 : decode cX0_remove 75 = .ok (.dup2, 1) := by decide +kernel
theorem dX0_remove_76 : decode cX0_remove 76 = .ok (.iaload, 1) := by decide +kernel
theorem dX0_remove_77 : decode cX0_remove 77 = .ok (.iconst 1, 1) := by decide +kernel
theorem dX0_remove_78 : decode cX0_remove 78 = .ok (.isub, 1) := by decide +kernel
theorem dX0_remove_79 : decode cX0_remove 79 = .ok (.iastore, 1) := by decide +kernel
theorem dX0_remove_80 : decode cX0_remove 80 = .ok (.return_, 1) := by decide +kernel
theorem dX0_all_0 : decode cX0_all 0 = .ok (.iconst 0, 1) := by decide +kernel
theorem dX0_all_1 : decode cX0_all 1 = .ok (.istore_n 1, 1) := by decide +kernel
theorem dX0_all_2 : decode cX0_all 2 = .ok (.iconst 0, 1) := by decide +kernel
theorem dX0_all_3 : decode cX0_all 3 = .ok (.istore_n 2, 1) := by decide +kernel
theorem dX0_all_4 : decode cX0_all 4 = .ok (.iload_n 2, 1) := by decide +kernel
theorem dX0_all_5 : decode cX0_all 5 = .ok (.iconst 5, 1) := by decide +kernel
theorem dX0_all_6 : decode cX0_all 6 = .ok (.if_icmp .ge 18, 3) := by decide +kernel
theorem dX0_all_9 : decode cX0_all 9 = .ok (.iload_n 1, 1) := by decide +kernel
theorem dX0_all_10 : decode cX0_all 10 = .ok (.aload_n 0, 1) := by decide +kernel
theorem dX0_all_11 : decode cX0_all 11 = .ok (.getfield 18, 3) := by decide +kernel
theorem dX0_all_14 : decode cX0_all 14 = .ok (.iload_n 2, 1) := by decide +kernel
theorem dX0_all_15 : decode cX0_all 15 = .ok (.iaload, 1) := by decide +kernel
theorem dX0_all_16 : decode cX0_all 16 = .ok (.iadd, 1) := by decide +kernel
theorem dX0_all_17 : decode cX0_all 17 = .ok (.istore_n 1, 1) := by decide +kernel
theorem dX0_all_18 : decode cX0_all 18 = .ok (.iinc 2 1, 3) := by decide +kernel
theorem dX0_all_21 : decode cX0_all 21 = .ok (.goto (-17), 3) := by decide +kernel
theorem dX0_all_24 : decode cX0_all 24 = .ok (.iload_n 1, 1) := by decide +kernel
theorem dX0_all_25 : decode cX0_all 25 = .ok (.ireturn, 1) := by decide +kernel
theorem dX1_init_0 : decode cX1_init 0 = .ok (.aload_n 0, 1) := by decide +kernel
theorem dX1_init_1 : decode cX1_init 1 = .ok (.invokespecial 5, 3) := by decide +kernel
theorem dX1_init_4 : decode cX1_init 4 = .ok (.aload_n 0, 1) := by decide +kernel
theorem dX1_init_5 : decode cX1_init 5 = .ok (.sipush 225, 3) := by decide +kernel
theorem dX1_init_8 : decode cX1_init 8 = .ok (.newarray .int, 2) := by decide +kernel
theorem dX1_init_10 : decode cX1_init 10 = .ok (.putfield 11, 3) := by decide +kernel
theorem dX1_init_13 : decode cX1_init 13 = .ok (.return_, 1) := by decide +kernel
theorem dX1_clear_0 : decode cX1_clear 0 = .ok (.iconst 0, 1) := by decide +kernel
theorem dX1_clear_1 : decode cX1_clear 1 = .ok (.istore_n 1, 1) := by decide +kernel
theorem dX1_clear_2 : decode cX1_clear 2 = .ok (.iload_n 1, 1) := by decide +kernel
theorem dX1_clear_3 : decode cX1_clear 3 = .ok (.sipush 225, 3) := by decide +kernel
theorem dX1_clear_6 : decode cX1_clear 6 = .ok (.if_icmp .ge 16, 3) := by decide +kernel
theorem dX1_clear_9 : decode cX1_clear 9 = .ok (.aload_n 0, 1) := by decide +kernel
theorem dX1_clear_10 : decode cX1_clear 10 = .ok (.getfield 11, 3) := by decide +kernel
theorem dX1_clear_13 : decode cX1_clear 13 = .ok (.iload_n 1, 1) := by decide +kernel
theorem dX1_clear_14 : decode cX1_clear 14 = .ok (.iconst 0, 1) := by decide +kernel
theorem dX1_clear_15 : decode cX1_clear 15 = .ok (.iastore, 1) := by decide +kernel
theorem dX1_clear_16 : decode cX1_clear 16 = .ok (.iinc 1 1, 3) := by decide +kernel
theorem dX1_clear_19 : decode cX1_clear 19 = .ok (.goto (-17), 3) := by decide +kernel
theorem dX1_clear_22 : decode cX1_clear 22 = .ok (.return_, 1) := by decide +kernel
theorem dX1_copyFrom_0 : decode cX1_copyFrom 0 = .ok (.aload_n 1, 1) := by decide +kernel
theorem dX1_copyFrom_1 : decode cX1_copyFrom 1 = .ok (.getfield 11, 3) := by decide +kernel
theorem dX1_copyFrom_4 : decode cX1_copyFrom 4 = .ok (.iconst 0, 1) := by decide +kernel
theorem dX1_copyFrom_5 : decode cX1_copyFrom 5 = .ok (.aload_n 0, 1) := by decide +kernel
theorem dX1_copyFrom_6 : decode cX1_copyFrom 6 = .ok (.getfield 11, 3) := by decide +kernel
theorem dX1_copyFrom_9 : decode cX1_copyFrom 9 = .ok (.iconst 0, 1) := by decide +kernel
theorem dX1_copyFrom_10 : decode cX1_copyFrom 10 = .ok (.sipush 225, 3) := by decide +kernel
theorem dX1_copyFrom_13 : decode cX1_copyFrom 13 = .ok (.invokestatic 15, 3) := by decide +kernel
theorem dX1_copyFrom_16 : decode cX1_copyFrom 16 = .ok (.return_, 1) := by decide +kernel
set_option maxRecDepth 20000 in
theorem ggX1_indexOf_X8_isHolder : GoodIn wsX1_indexOf wsX8_isHolder := goodIn_r _ [3] (by decide +kernel) (by decide +kernel)
set_option maxRecDepth 20000 in
theorem gX1_indexOf_X8_isHolder_n21 : GoodIn wsX1_indexOf (wsX8_isHolder) := ggX1_indexOf_X8_isHolder
set_option maxRecDepth 20000 in
theorem ggX1_indexOf_X8_isKind : GoodIn wsX1_indexOf wsX8_isKind := goodIn_r _ [5] (by decide +kernel) (by decide +kernel)
set_option maxRecDepth 20000 in
theorem gX1_indexOf_X8_isKind_n25 : GoodIn wsX1_indexOf (wsX8_isKind) := ggX1_indexOf_X8_isKind
set_option maxRecDepth 20000 in
theorem ggX1_indexOf_X8_isPart : GoodIn wsX1_indexOf wsX8_isPart := goodIn_r _ [7] (by decide +kernel) (by decide +kernel)
set_option maxRecDepth 20000 in
theorem gX1_indexOf_X8_isPart_n28 : GoodIn wsX1_indexOf (wsX8_isPart) := ggX1_indexOf_X8_isPart
theorem dX1_indexOf_0 : decode cX1_indexOf 0 = .ok (.iload_n 0, 1) := by decide +kernel
theorem dX1_indexOf_1 : decode cX1_indexOf 1 = .ok (.invokestatic 21, 3) := by decide +kernel
theorem dX1_indexOf_4 : decode cX1_indexOf 4 = .ok (.ifCond .eq 24, 3) := by decide +kernel
theorem dX1_indexOf_7 : decode cX1_indexOf 7 = .ok (.iload_n 1, 1) := by decide +kernel
theorem dX1_indexOf_8 : decode cX1_indexOf 8 = .ok (.invokestatic 21, 3) := by decide +kernel
theorem dX1_indexOf_11 : decode cX1_indexOf 11 = .ok (.ifCond .eq 17, 3) := by decide +kernel
theorem dX1_indexOf_14 : decode cX1_indexOf 14 = .ok (.iload_n 2, 1) := by decide +kernel
theorem dX1_indexOf_15 : decode cX1_indexOf 15 = .ok (.invokestatic 25, 3) := by decide +kernel
theorem dX1_indexOf_18 : decode cX1_indexOf 18 = .ok (.ifCond .eq 10, 3) := by decide +kernel
theorem dX1_indexOf_21 : decode cX1_indexOf 21 = .ok (.iload_n 3, 1) := by decide +kernel
theorem dX1_indexOf_22 : decode cX1_indexOf 22 = .ok (.invokestatic 28, 3) := by decide +kernel
theorem dX1_indexOf_25 : decode cX1_indexOf 25 = .ok (.ifCond .ne 5, 3) := by decide +kernel
theorem dX1_indexOf_28 : decode cX1_indexOf 28 = .ok (.iconst (-1), 1) := by decide +kernel
theorem dX1_indexOf_29 : decode cX1_indexOf 29 = .ok (.ireturn, 1) := by decide +kernel
theorem dX1_indexOf_30 : decode cX1_indexOf 30 = .ok (.iload_n 0, 1) := by decide +kernel
theorem dX1_indexOf_31 : decode cX1_indexOf 31 = .ok (.iconst 5, 1) := by decide +kernel
theorem dX1_indexOf_32 : decode cX1_indexOf 32 = .ok (.imul, 1) := by decide +kernel
theorem dX1_indexOf_33 : decode cX1_indexOf 33 = .ok (.iload_n 1, 1) := by decide +kernel
theorem dX1_indexOf_34 : decode cX1_indexOf 34 = .ok (.iadd, 1) := by decide +kernel
theorem dX1_indexOf_35 : decode cX1_indexOf 35 = .ok (.bipush 9, 2) := by decide +kernel
theorem dX1_indexOf_37 : decode cX1_indexOf 37 = .ok (.imul, 1) := by decide +kernel
theorem dX1_indexOf_38 : decode cX1_indexOf 38 = .ok (.iload_n 2, 1) := by decide +kernel
theorem dX1_indexOf_39 : decode cX1_indexOf 39 = .ok (.iconst 3, 1) := by decide +kernel
theorem dX1_indexOf_40 : decode cX1_indexOf 40 = .ok (.imul, 1) := by decide +kernel
theorem dX1_indexOf_41 : decode cX1_indexOf 41 = .ok (.iadd, 1) := by decide +kernel
theorem dX1_indexOf_42 : decode cX1_indexOf 42 = .ok (.iload_n 3, 1) := by decide +kernel
theorem dX1_indexOf_43 : decode cX1_indexOf 43 = .ok (.iadd, 1) := by decide +kernel
theorem dX1_indexOf_44 : decode cX1_indexOf 44 = .ok (.ireturn, 1) := by decide +kernel
set_option maxRecDepth 20000 in
theorem ggX1_between_X1_indexOf : GoodIn wsX1_between wsX1_indexOf := goodIn_r _ [5, 6, 7, 8, 9, 10, 11, 12] (by decide +kernel) (by decide +kernel)
set_option maxRecDepth 20000 in
theorem gX1_between_X1_indexOf : GoodIn wsX1_between (va_wsS RX1 31 yX1_indexOf wsX1_indexOf) := goodIn_app (goodIn_of _ (by decide +kernel)) ggX1_between_X1_indexOf
theorem dX1_between_0 : decode cX1_between 0 = .ok (.iload_n 1, 1) := by decide +kernel
theorem dX1_between_1 : decode cX1_between 1 = .ok (.iload_n 2, 1) := by decide +kernel
theorem dX1_between_2 : decode cX1_between 2 = .ok (.iload_n 3, 1) := by decide +kernel
theorem dX1_between_3 : decode cX1_between 3 = .ok (.iload 4, 2) := by decide +kernel
theorem dX1_between_5 : decode cX1_between 5 = .ok (.invokestatic 31, 3) := by decide +kernel
theorem dX1_between_8 : decode cX1_between 8 = .ok (.istore 5, 2) := by decide +kernel
theorem dX1_between_10 : decode cX1_between 10 = .ok (.iload 5, 2) := by decide +kernel
theorem dX1_between_12 : decode cX1_between 12 = .ok (.iconst (-1), 1) := by decide +kernel
theorem dX1_between_13 : decode cX1_between 13 = .ok (.if_icmp .ne 7, 3) := by decide +kernel
theorem dX1_between_16 : decode cX1_between 16 = .ok (.iconst 0, 1) := by decide +kernel
theorem dX1_between_17 : decode cX1_between 17 = .ok (.goto 10, 3) := by decide +kernel
theorem dX1_between_20 : decode cX1_between 20 = .ok (.aload_n 0, 1) := by decide +kernel
theorem dX1_between_21 : decode cX1_between 21 = .ok (.getfield 11, 3) := by decide +kernel
theorem dX1_between_24 : decode cX1_between 24 = .ok (.iload 5, 2) := by decide +kernel
theorem dX1_between_26 : decode cX1_between 26 = .ok (.iaload, 1) := by decide +kernel
theorem dX1_between_27 : decode cX1_between 27 = .ok (.ireturn, 1) := by decide +kernel
set_option maxRecDepth 20000 in
theorem ggX1_addOne_X1_indexOf : GoodIn wsX1_addOne wsX1_indexOf := goodIn_r _ [5, 6, 7, 8, 9, 10, 11, 12] (by decide +kernel) (by decide +kernel)
set_option maxRecDepth 20000 in
theorem gX1_addOne_X1_indexOf : GoodIn wsX1_addOne (va_wsS RX1 31 yX1_indexOf wsX1_indexOf) := goodIn_app (goodIn_of _ (by decide +kernel)) ggX1_addOne_X1_indexOf
theorem dX1_addOne_0 : decode cX1_addOne 0 = .ok (.iload_n 1, 1) := by decide +kernel
theorem dX1_addOne_1 : decode cX1_addOne 1 = .ok (.iload_n 2, 1) := by decide +kernel
theorem dX1_addOne_2 : decode cX1_addOne 2 = .ok (.iload_n 3, 1) := by decide +kernel
theorem dX1_addOne_3 : decode cX1_addOne 3 = .ok (.iload 4, 2) := by decide +kernel
theorem dX1_addOne_5 : decode cX1_addOne 5 = .ok (.invokestatic 31, 3) := by decide +kernel
theorem dX1_addOne_8 : decode cX1_addOne 8 = .ok (.istore 5, 2) := by decide +kernel
theorem dX1_addOne_10 : decode cX1_addOne 10 = .ok (.iload_n 2, 1) := by decide +kernel
theorem dX1_addOne_11 : decode cX1_addOne 11 = .ok (.iload_n 1, 1) := by decide +kernel
theorem dX1_addOne_12 : decode cX1_addOne 12 = .ok (.iload_n 3, 1) := by decide +kernel
theorem dX1_addOne_13 : decode cX1_addOne 13 = .ok (.iload 4, 2) := by decide +kernel
theorem dX1_addOne_15 : decode cX1_addOne 15 = .ok (.invokestatic 31, 3) := by decide +kernel
theorem dX1_addOne_18 : decode cX1_addOne 18 = .ok (.istore 6, 2) := by decide +kernel
theorem dX1_addOne_20 : decode cX1_addOne 20 = .ok (.iload 5, 2) := by decide +kernel
theorem dX1_addOne_22 : decode cX1_addOne 22 = .ok (.iconst (-1), 1) := by decide +kernel
theorem dX1_addOne_23 : decode cX1_addOne 23 = .ok (.if_icmp .eq 16, 3) := by decide +kernel
theorem dX1_addOne_26 : decode cX1_addOne 26 = .ok (.iload 6, 2) := by decide +kernel
theorem dX1_addOne_28 : decode cX1_addOne 28 = .ok (.iconst (-1), 1) := by decide +kernel
theorem dX1_addOne_29 : decode cX1_addOne 29 = .ok (.if_icmp .eq 10, 3) := by decide +kernel
theorem dX1_addOne_32 : decode cX1_addOne 32 = .ok (.iload 5, 2) := by decide +kernel
theorem dX1_addOne_34 : decode cX1_addOne 34 = .ok (.iload 6, 2) := by decide +kernel
theorem dX1_addOne_36 : decode cX1_addOne 36 = .ok (.if_icmp .ne 4, 3) := by decide +kernel
theorem dX1_addOne_39 : decode cX1_addOne 39 = .ok (.return_, 1) := by decide +kernel
theorem dX1_addOne_40 : decode cX1_addOne 40 = .ok (.aload_n 0, 1) := by decide +kernel
theorem dX1_addOne_41 : decode cX1_addOne 41 = .ok (.getfield 11, 3) := by decide +kernel
theorem dX1_addOne_44 : decode cX1_addOne 44 = .ok (.iload 6, 2) := by decide +kernel
theorem dX1_addOne_46 : decode cX1_addOne 46 = .ok (.iaload, 1) := by decide +kernel
theorem dX1_addOne_47 : decode cX1_addOne 47 = .ok (.ifCond .le 17, 3) := by decide +kernel
theorem dX1_addOne_50 : decode cX1_addOne 50 = .ok (.aload_n 0, 1) := by decide +kernel
theorem dX1_addOne_51 : decode cX1_addOne 51 = .ok (.getfield 11, 3) := by decide +kernel
theorem dX1_addOne_54 : decode cX1_addOne 54 = .ok (.iload 6, 2) := by decide +kernel
theorem dX1_addOne_56 : decode cX1_addOne 56 = .ok (.dup2, 1) := by decide +kernel
theorem dX1_addOne_57 : decode cX1_addOne 57 = .ok (.iaload, 1) := by decide +kernel
theorem dX1_addOne_58 : decode cX1_addOne 58 = .ok (.iconst 1, 1) := by decide +kernel
theorem dX1_addOne_59 : decode cX1_addOne 59 = .ok (.isub, 1) := by decide +kernel
theorem dX1_addOne_60 : decode cX1_addOne 60 = .ok (.iastore, 1) := by decide +kernel
theorem dX1_addOne_61 : decode cX1_addOne 61 = .ok (.goto 14, 3) := by decide +kernel
theorem dX1_addOne_64 : decode cX1_addOne 64 = .ok (.aload_n 0, 1) := by decide +kernel
theorem dX1_addOne_65 : decode cX1_addOne 65 = .ok (.getfield 11, 3) := by decide +kernel
theorem dX1_addOne_68 : decode cX1_addOne 68 = .ok (.iload 5, 2) := by decide +kernel
theorem dX1_addOne_70 : decode cX1_addOne 70 = .ok (.dup2, 1) := by decide +kernel
theorem dX1_addOne_71 : decode cX1_addOne 71 = .ok (.iaload, 1) := by decide +kernel
theorem dX1_addOne_72 : decode cX1_addOne 72 = .ok (.iconst 1, 1) := by decide +kernel
theorem dX1_addOne_73 : decode cX1_addOne 73 = .ok (.iadd, 1) := by decide +kernel
theorem dX1_addOne_74 : decode cX1_addOne 74 = .ok (.iastore, 1) := by decide +kernel
theorem dX1_addOne_75 : decode cX1_addOne 75 = .ok (.return_, 1) := by decide +kernel
set_option maxRecDepth 20000 in
theorem ggX1_removeOne_X1_indexOf : GoodIn wsX1_removeOne wsX1_indexOf := goodIn_r _ [5, 6, 7, 8, 9, 10, 11, 12] (by decide +kernel) (by decide +kernel)
set_option maxRecDepth 20000 in
theorem gX1_removeOne_X1_indexOf : GoodIn wsX1_removeOne (va_wsS RX1 31 yX1_indexOf wsX1_indexOf) := goodIn_app (goodIn_of _ (by decide +kernel)) ggX1_removeOne_X1_indexOf
theorem dX1_removeOne_0 : decode cX1_removeOne 0 = .ok (.iload_n 1, 1) := by decide +kernel
theorem dX1_removeOne_1 : decode cX1_removeOne 1 = .ok (.iload_n 2, 1) := by decide +kernel
theorem dX1_removeOne_2 : decode cX1_removeOne 2 = .ok (.iload_n 3, 1) := by decide +kernel
theorem dX1_removeOne_3 : decode cX1_removeOne 3 = .ok (.iload 4, 2) := by decide +kernel
theorem dX1_removeOne_5 : decode cX1_removeOne 5 = .ok (.invokestatic 31, 3) := by decide +kernel
theorem dX1_removeOne_8 : decode cX1_removeOne 8 = .ok (.istore 5, 2) := by decide +kernel
theorem dX1_removeOne_10 : decode cX1_removeOne 10 = .ok (.iload 5, 2) := by decide +kernel
theorem dX1_removeOne_12 : decode cX1_removeOne 12 = .ok (.iconst (-1), 1) := by decide +kernel
theorem dX1_removeOne_13 : decode cX1_removeOne 13 = .ok (.if_icmp .eq 24, 3) := by decide +kernel
theorem dX1_removeOne_16 : decode cX1_removeOne 16 = .ok (.aload_n 0, 1) := by decide +kernel
theorem dX1_removeOne_17 : decode cX1_removeOne 17 = .ok (.getfield 11, 3) := by decide +kernel
theorem dX1_removeOne_20 : decode cX1_removeOne 20 = .ok (.iload 5, 2) := by decide +kernel
theorem dX1_removeOne_22 : decode cX1_removeOne 22 = .ok (.iaload, 1) := by decide +kernel
theorem dX1_removeOne_23 : decode cX1_removeOne 23 = .ok (.ifCond .le 14, 3) := by decide +kernel
theorem dX1_removeOne_26 : decode cX1_removeOne 26 = .ok (.aload_n 0, 1) := by decide +kernel
theorem dX1_removeOne_27 : decode cX1_removeOne 27 = .ok (.getfield 11, 3) := by decide +kernel
theorem dX1_removeOne_30 : decode cX1_removeOne 30 = .ok (.iload 5, 2) := by decide +kernel
theorem dX1_removeOne_32 : decode cX1_removeOne 32 = .ok (.dup2, 1) := by decide +kernel
theorem dX1_removeOne_33 : decode cX1_removeOne 33 = .ok (.iaload, 1) := by decide +kernel
theorem dX1_removeOne_34 : decode cX1_removeOne 34 = .ok (.iconst 1, 1) := by decide +kernel
theorem dX1_removeOne_35 : decode cX1_removeOne 35 = .ok (.isub, 1) := by decide +kernel
theorem dX1_removeOne_36 : decode cX1_removeOne 36 = .ok (.iastore, 1) := by decide +kernel
theorem dX1_removeOne_37 : decode cX1_removeOne 37 = .ok (.return_, 1) := by decide +kernel
set_option maxRecDepth 20000 in
theorem ggX1_owedBy_X1_ofAllSorts : GoodIn wsX1_owedBy wsX1_ofAllSorts := goodIn_r _ [5, 6, 7, 8, 9, 10] (by decide +kernel) (by decide +kernel)
set_option maxRecDepth 20000 in
theorem gX1_owedBy_X1_ofAllSorts : GoodIn wsX1_owedBy (wsV RX1 35 RX1 yX1_ofAllSorts wsX1_ofAllSorts) := goodIn_app (goodIn_of _ (by decide +kernel)) ggX1_owedBy_X1_ofAllSorts
theorem dX1_owedBy_0 : decode cX1_owedBy 0 = .ok (.iconst 0, 1) := by decide +kernel
theorem dX1_owedBy_1 : decode cX1_owedBy 1 = .ok (.istore_n 2, 1) := by decide +kernel
theorem dX1_owedBy_2 : decode cX1_owedBy 2 = .ok (.iconst 0, 1) := by decide +kernel
theorem dX1_owedBy_3 : decode cX1_owedBy 3 = .ok (.istore_n 3, 1) := by decide +kernel
theorem dX1_owedBy_4 : decode cX1_owedBy 4 = .ok (.iload_n 3, 1) := by decide +kernel
theorem dX1_owedBy_5 : decode cX1_owedBy 5 = .ok (.iconst 5, 1) := by decide +kernel
theorem dX1_owedBy_6 : decode cX1_owedBy 6 = .ok (.if_icmp .ge 18, 3) := by decide +kernel
theorem dX1_owedBy_9 : decode cX1_owedBy 9 = .ok (.iload_n 2, 1) := by decide +kernel
theorem dX1_owedBy_10 : decode cX1_owedBy 10 = .ok (.aload_n 0, 1) := by decide +kernel
theorem dX1_owedBy_11 : decode cX1_owedBy 11 = .ok (.iload_n 1, 1) := by decide +kernel
theorem dX1_owedBy_12 : decode cX1_owedBy 12 = .ok (.iload_n 3, 1) := by decide +kernel
theorem dX1_owedBy_13 : decode cX1_owedBy 13 = .ok (.invokevirtual 35, 3) := by decide +kernel
theorem dX1_owedBy_16 : decode cX1_owedBy 16 = .ok (.iadd, 1) := by decide +kernel
theorem dX1_owedBy_17 : decode cX1_owedBy 17 = .ok (.istore_n 2, 1) := by decide +kernel
theorem dX1_owedBy_18 : decode cX1_owedBy 18 = .ok (.iinc 3 1, 3) := by decide +kernel
theorem dX1_owedBy_21 : decode cX1_owedBy 21 = .ok (.goto (-17), 3) := by decide +kernel
theorem dX1_owedBy_24 : decode cX1_owedBy 24 = .ok (.iload_n 2, 1) := by decide +kernel
theorem dX1_owedBy_25 : decode cX1_owedBy 25 = .ok (.ireturn, 1) := by decide +kernel
set_option maxRecDepth 20000 in
theorem ggX1_owedTo_X1_ofAllSorts : GoodIn wsX1_owedTo wsX1_ofAllSorts := goodIn_r _ [5, 6, 7, 8, 9, 10] (by decide +kernel) (by decide +kernel)
set_option maxRecDepth 20000 in
theorem gX1_owedTo_X1_ofAllSorts : GoodIn wsX1_owedTo (wsV RX1 35 RX1 yX1_ofAllSorts wsX1_ofAllSorts) := goodIn_app (goodIn_of _ (by decide +kernel)) ggX1_owedTo_X1_ofAllSorts
theorem dX1_owedTo_0 : decode cX1_owedTo 0 = .ok (.iconst 0, 1) := by decide +kernel
theorem dX1_owedTo_1 : decode cX1_owedTo 1 = .ok (.istore_n 2, 1) := by decide +kernel
theorem dX1_owedTo_2 : decode cX1_owedTo 2 = .ok (.iconst 0, 1) := by decide +kernel
theorem dX1_owedTo_3 : decode cX1_owedTo 3 = .ok (.istore_n 3, 1) := by decide +kernel
theorem dX1_owedTo_4 : decode cX1_owedTo 4 = .ok (.iload_n 3, 1) := by decide +kernel
theorem dX1_owedTo_5 : decode cX1_owedTo 5 = .ok (.iconst 5, 1) := by decide +kernel
theorem dX1_owedTo_6 : decode cX1_owedTo 6 = .ok (.if_icmp .ge 18, 3) := by decide +kernel
theorem dX1_owedTo_9 : decode cX1_owedTo 9 = .ok (.iload_n 2, 1) := by decide +kernel
theorem dX1_owedTo_10 : decode cX1_owedTo 10 = .ok (.aload_n 0, 1) := by decide +kernel
theorem dX1_owedTo_11 : decode cX1_owedTo 11 = .ok (.iload_n 3, 1) := by decide +kernel
theorem dX1_owedTo_12 : decode cX1_owedTo 12 = .ok (.iload_n 1, 1) := by decide +kernel
theorem dX1_owedTo_13 : decode cX1_owedTo 13 = .ok (.invokevirtual 35, 3) := by decide +kernel
theorem dX1_owedTo_16 : decode cX1_owedTo 16 = .ok (.iadd, 1) := by decide +kernel
theorem dX1_owedTo_17 : decode cX1_owedTo 17 = .ok (.istore_n 2, 1) := by decide +kernel
theorem dX1_owedTo_18 : decode cX1_owedTo 18 = .ok (.iinc 3 1, 3) := by decide +kernel
theorem dX1_owedTo_21 : decode cX1_owedTo 21 = .ok (.goto (-17), 3) := by decide +kernel
theorem dX1_owedTo_24 : decode cX1_owedTo 24 = .ok (.iload_n 2, 1) := by decide +kernel
theorem dX1_owedTo_25 : decode cX1_owedTo 25 = .ok (.ireturn, 1) := by decide +kernel
set_option maxRecDepth 20000 in
theorem ggX1_all_X1_owedBy : GoodIn wsX1_all wsX1_owedBy := goodIn_r _ [5, 6, 7, 8, 4, 9, 10, 11, 12, 13, 14] (by decide +kernel) (by decide +kernel)
set_option maxRecDepth 20000 in
theorem gX1_all_X1_owedBy : GoodIn wsX1_all (wsV RX1 39 RX1 yX1_owedBy wsX1_owedBy) := goodIn_app (goodIn_of _ (by decide +kernel)) ggX1_all_X1_owedBy
theorem dX1_all_0 : decode cX1_all 0 = .ok (.iconst 0, 1) := by decide +kernel
theorem dX1_all_1 : decode cX1_all 1 = .ok (.istore_n 1, 1) := by decide +kernel
theorem dX1_all_2 : decode cX1_all 2 = .ok (.iconst 0, 1) := by decide +kernel
theorem dX1_all_3 : decode cX1_all 3 = .ok (.istore_n 2, 1) := by decide +kernel
theorem dX1_all_4 : decode cX1_all 4 = .ok (.iload_n 2, 1) := by decide +kernel
theorem dX1_all_5 : decode cX1_all 5 = .ok (.iconst 5, 1) := by decide +kernel
theorem dX1_all_6 : decode cX1_all 6 = .ok (.if_icmp .ge 17, 3) := by decide +kernel
theorem dX1_all_9 : decode cX1_all 9 = .ok (.iload_n 1, 1) := by decide +kernel
theorem dX1_all_10 : decode cX1_all 10 = .ok (.aload_n 0, 1) := by decide +kernel
theorem dX1_all_11 : decode cX1_all 11 = .ok (.iload_n 2, 1) := by decide +kernel
theorem dX1_all_12 : decode cX1_all 12 = .ok (.invokevirtual 39, 3) := by decide +kernel
theorem dX1_all_15 : decode cX1_all 15 = .ok (.iadd, 1) := by decide +kernel
theorem dX1_all_16 : decode cX1_all 16 = .ok (.istore_n 1, 1) := by decide +kernel
theorem dX1_all_17 : decode cX1_all 17 = .ok (.iinc 2 1, 3) := by decide +kernel
theorem dX1_all_20 : decode cX1_all 20 = .ok (.goto (-16), 3) := by decide +kernel
theorem dX1_all_23 : decode cX1_all 23 = .ok (.iload_n 1, 1) := by decide +kernel
theorem dX1_all_24 : decode cX1_all 24 = .ok (.ireturn, 1) := by decide +kernel
set_option maxRecDepth 20000 in
theorem ggX1_ofAllSorts_X8_isHolder : GoodIn wsX1_ofAllSorts wsX8_isHolder := goodIn_r _ [4] (by decide +kernel) (by decide +kernel)
set_option maxRecDepth 20000 in
theorem gX1_ofAllSorts_X8_isHolder_n21 : GoodIn wsX1_ofAllSorts (wsX8_isHolder) := ggX1_ofAllSorts_X8_isHolder
theorem dX1_ofAllSorts_0 : decode cX1_ofAllSorts 0 = .ok (.iload_n 1, 1) := by decide +kernel
theorem dX1_ofAllSorts_1 : decode cX1_ofAllSorts 1 = .ok (.invokestatic 21, 3) := by decide +kernel
theorem dX1_ofAllSorts_4 : decode cX1_ofAllSorts 4 = .ok (.ifCond .eq 10, 3) := by decide +kernel
theorem dX1_ofAllSorts_7 : decode cX1_ofAllSorts 7 = .ok (.iload_n 2, 1) := by decide +kernel
theorem dX1_ofAllSorts_8 : decode cX1_ofAllSorts 8 = .ok (.invokestatic 21, 3) := by decide +kernel
theorem dX1_ofAllSorts_11 : decode cX1_ofAllSorts 11 = .ok (.ifCond .ne 5, 3) := by decide +kernel
theorem dX1_ofAllSorts_14 : decode cX1_ofAllSorts 14 = .ok (.iconst 0, 1) := by decide +kernel
theorem dX1_ofAllSorts_15 : decode cX1_ofAllSorts 15 = .ok (.ireturn, 1) := by decide +kernel
theorem dX1_ofAllSorts_16 : decode cX1_ofAllSorts 16 = .ok (.iload_n 1, 1) := by decide +kernel
theorem dX1_ofAllSorts_17 : decode cX1_ofAllSorts 17 = .ok (.iconst 5, 1) := by decide +kernel
theorem dX1_ofAllSorts_18 : decode cX1_ofAllSorts 18 = .ok (.imul, 1) := by decide +kernel
theorem dX1_ofAllSorts_19 : decode cX1_ofAllSorts 19 = .ok (.iload_n 2, 1) := by decide +kernel
theorem dX1_ofAllSorts_20 : decode cX1_ofAllSorts 20 = .ok (.iadd, 1) := by decide +kernel
theorem dX1_ofAllSorts_21 : decode cX1_ofAllSorts 21 = .ok (.bipush 9, 2) := by decide +kernel
theorem dX1_ofAllSorts_23 : decode cX1_ofAllSorts 23 = .ok (.imul, 1) := by decide +kernel
theorem dX1_ofAllSorts_24 : decode cX1_ofAllSorts 24 = .ok (.istore_n 3, 1) := by decide +kernel
theorem dX1_ofAllSorts_25 : decode cX1_ofAllSorts 25 = .ok (.iconst 0, 1) := by decide +kernel
theorem dX1_ofAllSorts_26 : decode cX1_ofAllSorts 26 = .ok (.istore 4, 2) := by decide +kernel
theorem dX1_ofAllSorts_28 : decode cX1_ofAllSorts 28 = .ok (.iconst 0, 1) := by decide +kernel
theorem dX1_ofAllSorts_29 : decode cX1_ofAllSorts 29 = .ok (.istore 5, 2) := by decide +kernel
theorem dX1_ofAllSorts_31 : decode cX1_ofAllSorts 31 = .ok (.iload 5, 2) := by decide +kernel
theorem dX1_ofAllSorts_33 : decode cX1_ofAllSorts 33 = .ok (.bipush 9, 2) := by decide +kernel
theorem dX1_ofAllSorts_35 : decode cX1_ofAllSorts 35 = .ok (.if_icmp .ge 23, 3) := by decide +kernel
theorem dX1_ofAllSorts_38 : decode cX1_ofAllSorts 38 = .ok (.iload 4, 2) := by decide +kernel
theorem dX1_ofAllSorts_40 : decode cX1_ofAllSorts 40 = .ok (.aload_n 0, 1) := by decide +kernel
theorem dX1_ofAllSorts_41 : decode cX1_ofAllSorts 41 = .ok (.getfield 11, 3) := by decide +kernel
theorem dX1_ofAllSorts_44 : decode cX1_ofAllSorts 44 = .ok (.iload_n 3, 1) := by decide +kernel
theorem dX1_ofAllSorts_45 : decode cX1_ofAllSorts 45 = .ok (.iload 5, 2) := by decide +kernel
theorem dX1_ofAllSorts_47 : decode cX1_ofAllSorts 47 = .ok (.iadd, 1) := by decide +kernel
theorem dX1_ofAllSorts_48 : decode cX1_ofAllSorts 48 = .ok (.iaload, 1) := by decide +kernel
theorem dX1_ofAllSorts_49 : decode cX1_ofAllSorts 49 = .ok (.iadd, 1) := by decide +kernel
theorem dX1_ofAllSorts_50 : decode cX1_ofAllSorts 50 = .ok (.istore 4, 2) := by decide +kernel
theorem dX1_ofAllSorts_52 : decode cX1_ofAllSorts 52 = .ok (.iinc 5 1, 3) := by decide +kernel
theorem dX1_ofAllSorts_55 : decode cX1_ofAllSorts 55 = .ok (.goto (-24), 3) := by decide +kernel
theorem dX1_ofAllSorts_58 : decode cX1_ofAllSorts 58 = .ok (.iload 4, 2) := by decide +kernel
theorem dX1_ofAllSorts_60 : decode cX1_ofAllSorts 60 = .ok (.ireturn, 1) := by decide +kernel
theorem dJ6_bitCount_0f7a4_0 : decode cJ6_bitCount_0f7a4 0 = .ok (.iload_n 0, 1) := by decide +kernel
theorem dJ6_bitCount_0f7a4_1 : decode cJ6_bitCount_0f7a4 1 = .ok (.iload_n 0, 1) := by decide +kernel
theorem dJ6_bitCount_0f7a4_2 : decode cJ6_bitCount_0f7a4 2 = .ok (.iconst 1, 1) := by decide +kernel
theorem dJ6_bitCount_0f7a4_3 : decode cJ6_bitCount_0f7a4 3 = .ok (.iushr, 1) := by decide +kernel
theorem dJ6_bitCount_0f7a4_4 : decode cJ6_bitCount_0f7a4 4 = .ok (.ldc_w 265, 3) := by decide +kernel
theorem dJ6_bitCount_0f7a4_7 : decode cJ6_bitCount_0f7a4 7 = .ok (.iand, 1) := by decide +kernel
theorem dJ6_bitCount_0f7a4_8 : decode cJ6_bitCount_0f7a4 8 = .ok (.isub, 1) := by decide +kernel
theorem dJ6_bitCount_0f7a4_9 : decode cJ6_bitCount_0f7a4 9 = .ok (.istore_n 0, 1) := by decide +kernel
theorem dJ6_bitCount_0f7a4_10 : decode cJ6_bitCount_0f7a4 10 = .ok (.iload_n 0, 1) := by decide +kernel
theorem dJ6_bitCount_0f7a4_11 : decode cJ6_bitCount_0f7a4 11 = .ok (.ldc_w 266, 3) := by decide +kernel
theorem dJ6_bitCount_0f7a4_14 : decode cJ6_bitCount_0f7a4 14 = .ok (.iand, 1) := by decide +kernel
theorem dJ6_bitCount_0f7a4_15 : decode cJ6_bitCount_0f7a4 15 = .ok (.iload_n 0, 1) := by decide +kernel
theorem dJ6_bitCount_0f7a4_16 : decode cJ6_bitCount_0f7a4 16 = .ok (.iconst 2, 1) := by decide +kernel
theorem dJ6_bitCount_0f7a4_17 : decode cJ6_bitCount_0f7a4 17 = .ok (.iushr, 1) := by decide +kernel
theorem dJ6_bitCount_0f7a4_18 : decode cJ6_bitCount_0f7a4 18 = .ok (.ldc_w 266, 3) := by decide +kernel
theorem dJ6_bitCount_0f7a4_21 : decode cJ6_bitCount_0f7a4 21 = .ok (.iand, 1) := by decide +kernel
theorem dJ6_bitCount_0f7a4_22 : decode cJ6_bitCount_0f7a4 22 = .ok (.iadd, 1) := by decide +kernel
theorem dJ6_bitCount_0f7a4_23 : decode cJ6_bitCount_0f7a4 23 = .ok (.istore_n 0, 1) := by decide +kernel
theorem dJ6_bitCount_0f7a4_24 : decode cJ6_bitCount_0f7a4 24 = .ok (.iload_n 0, 1) := by decide +kernel
theorem dJ6_bitCount_0f7a4_25 : decode cJ6_bitCount_0f7a4 25 = .ok (.iload_n 0, 1) := by decide +kernel
theorem dJ6_bitCount_0f7a4_26 : decode cJ6_bitCount_0f7a4 26 = .ok (.iconst 4, 1) := by decide +kernel
theorem dJ6_bitCount_0f7a4_27 : decode cJ6_bitCount_0f7a4 27 = .ok (.iushr, 1) := by decide +kernel
theorem dJ6_bitCount_0f7a4_28 : decode cJ6_bitCount_0f7a4 28 = .ok (.iadd, 1) := by decide +kernel
theorem dJ6_bitCount_0f7a4_29 : decode cJ6_bitCount_0f7a4 29 = .ok (.ldc_w 267, 3) := by decide +kernel
theorem dJ6_bitCount_0f7a4_32 : decode cJ6_bitCount_0f7a4 32 = .ok (.iand, 1) := by decide +kernel
theorem dJ6_bitCount_0f7a4_33 : decode cJ6_bitCount_0f7a4 33 = .ok (.istore_n 0, 1) := by decide +kernel
theorem dJ6_bitCount_0f7a4_34 : decode cJ6_bitCount_0f7a4 34 = .ok (.iload_n 0, 1) := by decide +kernel
theorem dJ6_bitCount_0f7a4_35 : decode cJ6_bitCount_0f7a4 35 = .ok (.iload_n 0, 1) := by decide +kernel
theorem dJ6_bitCount_0f7a4_36 : decode cJ6_bitCount_0f7a4 36 = .ok (.bipush 8, 2) := by decide +kernel
theorem dJ6_bitCount_0f7a4_38 : decode cJ6_bitCount_0f7a4 38 = .ok (.iushr, 1) := by decide +kernel
theorem dJ6_bitCount_0f7a4_39 : decode cJ6_bitCount_0f7a4 39 = .ok (.iadd, 1) := by decide +kernel
theorem dJ6_bitCount_0f7a4_40 : decode cJ6_bitCount_0f7a4 40 = .ok (.istore_n 0, 1) := by decide +kernel
theorem dJ6_bitCount_0f7a4_41 : decode cJ6_bitCount_0f7a4 41 = .ok (.iload_n 0, 1) := by decide +kernel
theorem dJ6_bitCount_0f7a4_42 : decode cJ6_bitCount_0f7a4 42 = .ok (.iload_n 0, 1) := by decide +kernel
theorem dJ6_bitCount_0f7a4_43 : decode cJ6_bitCount_0f7a4 43 = .ok (.bipush 16, 2) := by decide +kernel
theorem dJ6_bitCount_0f7a4_45 : decode cJ6_bitCount_0f7a4 45 = .ok (.iushr, 1) := by decide +kernel
theorem dJ6_bitCount_0f7a4_46 : decode cJ6_bitCount_0f7a4 46 = .ok (.iadd, 1) := by decide +kernel
theorem dJ6_bitCount_0f7a4_47 : decode cJ6_bitCount_0f7a4 47 = .ok (.istore_n 0, 1) := by decide +kernel
theorem dJ6_bitCount_0f7a4_48 : decode cJ6_bitCount_0f7a4 48 = .ok (.iload_n 0, 1) := by decide +kernel
theorem dJ6_bitCount_0f7a4_49 : decode cJ6_bitCount_0f7a4 49 = .ok (.bipush 63, 2) := by decide +kernel
theorem dJ6_bitCount_0f7a4_51 : decode cJ6_bitCount_0f7a4 51 = .ok (.iand, 1) := by decide +kernel
theorem dJ6_bitCount_0f7a4_52 : decode cJ6_bitCount_0f7a4 52 = .ok (.ireturn, 1) := by decide +kernel
theorem dJ9_max_7cf53_0 : decode cJ9_max_7cf53 0 = .ok (.iload_n 0, 1) := by decide +kernel
theorem dJ9_max_7cf53_1 : decode cJ9_max_7cf53 1 = .ok (.iload_n 1, 1) := by decide +kernel
theorem dJ9_max_7cf53_2 : decode cJ9_max_7cf53 2 = .ok (.if_icmp .lt 7, 3) := by decide +kernel
theorem dJ9_max_7cf53_5 : decode cJ9_max_7cf53 5 = .ok (.iload_n 0, 1) := by decide +kernel
theorem dJ9_max_7cf53_6 : decode cJ9_max_7cf53 6 = .ok (.goto 4, 3) := by decide +kernel
theorem dJ9_max_7cf53_9 : decode cJ9_max_7cf53 9 = .ok (.iload_n 1, 1) := by decide +kernel
theorem dJ9_max_7cf53_10 : decode cJ9_max_7cf53 10 = .ok (.ireturn, 1) := by decide +kernel
theorem dJ9_min_7cf53_0 : decode cJ9_min_7cf53 0 = .ok (.iload_n 0, 1) := by decide +kernel
theorem dJ9_min_7cf53_1 : decode cJ9_min_7cf53 1 = .ok (.iload_n 1, 1) := by decide +kernel
theorem dJ9_min_7cf53_2 : decode cJ9_min_7cf53 2 = .ok (.if_icmp .gt 7, 3) := by decide +kernel
theorem dJ9_min_7cf53_5 : decode cJ9_min_7cf53 5 = .ok (.iload_n 0, 1) := by decide +kernel
theorem dJ9_min_7cf53_6 : decode cJ9_min_7cf53 6 = .ok (.goto 4, 3) := by decide +kernel
theorem dJ9_min_7cf53_9 : decode cJ9_min_7cf53 9 = .ok (.iload_n 1, 1) := by decide +kernel
theorem dJ9_min_7cf53_10 : decode cJ9_min_7cf53 10 = .ok (.ireturn, 1) := by decide +kernel
set_option maxRecDepth 20000 in
theorem ggJ0_length_8abf5_J0_coder_7d493 : GoodIn wsJ0_length_8abf5 wsJ0_coder_7d493 := goodIn_r _ [6, 7, 8] (by decide +kernel) (by decide +kernel)
set_option maxRecDepth 20000 in
theorem gJ0_length_8abf5_J0_coder_7d493 : GoodIn wsJ0_length_8abf5 (wsV RJ0 335 RJ0 yJ0_coder_7d493 wsJ0_coder_7d493) := goodIn_app (goodIn_of _ (by decide +kernel)) ggJ0_length_8abf5_J0_coder_7d493
theorem dJ0_length_8abf5_0 : decode cJ0_length_8abf5 0 = .ok (.aload_n 0, 1) := by decide +kernel
theorem dJ0_length_8abf5_1 : decode cJ0_length_8abf5 1 = .ok (.getfield 9, 3) := by decide +kernel
theorem dJ0_length_8abf5_4 : decode cJ0_length_8abf5 4 = .ok (.arraylength, 1) := by decide +kernel
theorem dJ0_length_8abf5_5 : decode cJ0_length_8abf5 5 = .ok (.aload_n 0, 1) := by decide +kernel
theorem dJ0_length_8abf5_6 : decode cJ0_length_8abf5 6 = .ok (.invokevirtual 335, 3) := by decide +kernel
theorem dJ0_length_8abf5_9 : decode cJ0_length_8abf5 9 = .ok (.ishr, 1) := by decide +kernel
theorem dJ0_length_8abf5_10 : decode cJ0_length_8abf5 10 = .ok (.ireturn, 1) := by decide +kernel
theorem dJ0_isEmpty_aae02_0 : decode cJ0_isEmpty_aae02 0 = .ok (.aload_n 0, 1) := by decide +kernel
theorem dJ0_isEmpty_aae02_1 : decode cJ0_isEmpty_aae02 1 = .ok (.getfield 9, 3) := by decide +kernel
theorem dJ0_isEmpty_aae02_4 : decode cJ0_isEmpty_aae02 4 = .ok (.arraylength, 1) := by decide +kernel
theorem dJ0_isEmpty_aae02_5 : decode cJ0_isEmpty_aae02 5 = .ok (.ifCond .ne 7, 3) := by decide +kernel
theorem dJ0_isEmpty_aae02_8 : decode cJ0_isEmpty_aae02 8 = .ok (.iconst 1, 1) := by decide +kernel
theorem dJ0_isEmpty_aae02_9 : decode cJ0_isEmpty_aae02 9 = .ok (.goto 4, 3) := by decide +kernel
theorem dJ0_isEmpty_aae02_12 : decode cJ0_isEmpty_aae02 12 = .ok (.iconst 0, 1) := by decide +kernel
theorem dJ0_isEmpty_aae02_13 : decode cJ0_isEmpty_aae02 13 = .ok (.ireturn, 1) := by decide +kernel
set_option maxRecDepth 20000 in
theorem ggJ0_charAt_5068e_J0_isLatin1_aae02 : GoodIn wsJ0_charAt_5068e wsJ0_isLatin1_aae02 := goodIn_r _ [6, 7, 8] (by decide +kernel) (by decide +kernel)
set_option maxRecDepth 20000 in
theorem gJ0_charAt_5068e_J0_isLatin1_aae02 : GoodIn wsJ0_charAt_5068e (wsV RJ0 492 RJ0 yJ0_isLatin1_aae02 wsJ0_isLatin1_aae02) := goodIn_app (goodIn_of _ (by decide +kernel)) ggJ0_charAt_5068e_J0_isLatin1_aae02
set_option maxRecDepth 20000 in
theorem ggJ0_charAt_5068e_J1_charAt_3b067 : GoodIn wsJ0_charAt_5068e wsJ1_charAt_3b067 := goodIn_r _ [12, 13, 14, 5, 15, 16, 17, 18, 19, 20] (by decide +kernel) (by decide +kernel)
set_option maxRecDepth 20000 in
theorem gJ0_charAt_5068e_J1_charAt_3b067 : GoodIn wsJ0_charAt_5068e (va_wsS RJ0 495 yJ1_charAt_3b067 wsJ1_charAt_3b067) := goodIn_app (goodIn_of _ (by decide +kernel)) ggJ0_charAt_5068e_J1_charAt_3b067
set_option maxRecDepth 20000 in
theorem ggJ0_charAt_5068e_J2_charAt_3b067 : GoodIn wsJ0_charAt_5068e wsJ2_charAt_3b067 := goodIn_r _ [24, 25, 26, 23, 27, 28, 29, 30, 31, 14, 5, 15, 16, 17, 18, 19, 20, 32, 33, 34, 35, 36, 37] (by decide +kernel) (by decide +kernel)
set_option maxRecDepth 20000 in
theorem gJ0_charAt_5068e_J2_charAt_3b067 : GoodIn wsJ0_charAt_5068e (va_wsS RJ0 498 yJ2_charAt_3b067 wsJ2_charAt_3b067) := goodIn_app (goodIn_of _ (by decide +kernel)) ggJ0_charAt_5068e_J2_charAt_3b067
theorem dJ0_charAt_5068e_0 : decode cJ0_charAt_5068e 0 = .ok (.aload_n 0, 1) := by decide +kernel
theorem dJ0_charAt_5068e_1 : decode cJ0_charAt_5068e 1 = .ok (.invokevirtual 492, 3) := by decide +kernel
theorem dJ0_charAt_5068e_4 : decode cJ0_charAt_5068e 4 = .ok (.ifCond .eq 12, 3) := by decide +kernel
theorem dJ0_charAt_5068e_7 : decode cJ0_charAt_5068e 7 = .ok (.aload_n 0, 1) := by decide +kernel
theorem dJ0_charAt_5068e_8 : decode cJ0_charAt_5068e 8 = .ok (.getfield 9, 3) := by decide +kernel
theorem dJ0_charAt_5068e_11 : decode cJ0_charAt_5068e 11 = .ok (.iload_n 1, 1) := by decide +kernel
theorem dJ0_charAt_5068e_12 : decode cJ0_charAt_5068e 12 = .ok (.invokestatic 495, 3) := by decide +kernel
theorem dJ0_charAt_5068e_15 : decode cJ0_charAt_5068e 15 = .ok (.ireturn, 1) := by decide +kernel
theorem dJ0_charAt_5068e_16 : decode cJ0_charAt_5068e 16 = .ok (.aload_n 0, 1) := by decide +kernel
theorem dJ0_charAt_5068e_17 : decode cJ0_charAt_5068e 17 = .ok (.getfield 9, 3) := by decide +kernel
theorem dJ0_charAt_5068e_20 : decode cJ0_charAt_5068e 20 = .ok (.iload_n 1, 1) := by decide +kernel
theorem dJ0_charAt_5068e_21 : decode cJ0_charAt_5068e 21 = .ok (.invokestatic 498, 3) := by decide +kernel
theorem dJ0_charAt_5068e_24 : decode cJ0_charAt_5068e 24 = .ok (.ireturn, 1) := by decide +kernel
theorem dJ0_coder_7d493_0 : decode cJ0_coder_7d493 0 = .ok (.getstatic 38, 3) := by decide +kernel
theorem dJ0_coder_7d493_3 : decode cJ0_coder_7d493 3 = .ok (.ifCond .eq 10, 3) := by decide +kernel
theorem dJ0_coder_7d493_6 : decode cJ0_coder_7d493 6 = .ok (.aload_n 0, 1) := by decide +kernel
theorem dJ0_coder_7d493_7 : decode cJ0_coder_7d493 7 = .ok (.getfield 15, 3) := by decide +kernel
theorem dJ0_coder_7d493_10 : decode cJ0_coder_7d493 10 = .ok (.goto 4, 3) := by decide +kernel
theorem dJ0_coder_7d493_13 : decode cJ0_coder_7d493 13 = .ok (.iconst 1, 1) := by decide +kernel
theorem dJ0_coder_7d493_14 : decode cJ0_coder_7d493 14 = .ok (.ireturn, 1) := by decide +kernel
theorem dJ0_isLatin1_aae02_0 : decode cJ0_isLatin1_aae02 0 = .ok (.getstatic 38, 3) := by decide +kernel
theorem dJ0_isLatin1_aae02_3 : decode cJ0_isLatin1_aae02 3 = .ok (.ifCond .eq 14, 3) := by decide +kernel
theorem dJ0_isLatin1_aae02_6 : decode cJ0_isLatin1_aae02 6 = .ok (.aload_n 0, 1) := by decide +kernel
theorem dJ0_isLatin1_aae02_7 : decode cJ0_isLatin1_aae02 7 = .ok (.getfield 15, 3) := by decide +kernel
theorem dJ0_isLatin1_aae02_10 : decode cJ0_isLatin1_aae02 10 = .ok (.ifCond .ne 7, 3) := by decide +kernel
theorem dJ0_isLatin1_aae02_13 : decode cJ0_isLatin1_aae02 13 = .ok (.iconst 1, 1) := by decide +kernel
theorem dJ0_isLatin1_aae02_14 : decode cJ0_isLatin1_aae02 14 = .ok (.goto 4, 3) := by decide +kernel
theorem dJ0_isLatin1_aae02_17 : decode cJ0_isLatin1_aae02 17 = .ok (.iconst 0, 1) := by decide +kernel
theorem dJ0_isLatin1_aae02_18 : decode cJ0_isLatin1_aae02 18 = .ok (.ireturn, 1) := by decide +kernel
set_option maxRecDepth 20000 in
theorem ggJ0_checkIndex_df160_J3_checkIndex_8e157 : GoodIn wsJ0_checkIndex_df160 wsJ3_checkIndex_8e157 := goodIn_r _ [5] (by decide +kernel) (by decide +kernel)
set_option maxRecDepth 20000 in
theorem gJ0_checkIndex_df160_J3_checkIndex_8e157 : GoodIn wsJ0_checkIndex_df160 (va_wsS RJ0 1059 yJ3_checkIndex_8e157 wsJ3_checkIndex_8e157) := goodIn_app (goodIn_of _ (by decide +kernel)) ggJ0_checkIndex_df160_J3_checkIndex_8e157
theorem dJ0_checkIndex_df160_0 : decode cJ0_checkIndex_df160 0 = .ok (.iload_n 0, 1) := by decide +kernel
theorem dJ0_checkIndex_df160_1 : decode cJ0_checkIndex_df160 1 = .ok (.iload_n 1, 1) := by decide +kernel
theorem dJ0_checkIndex_df160_2 : decode cJ0_checkIndex_df160 2 = .ok (.getstatic 1053, 3) := by decide +kernel
theorem dJ0_checkIndex_df160_5 : decode cJ0_checkIndex_df160 5 = .ok (.invokestatic 1059, 3) := by decide +kernel
theorem dJ0_checkIndex_df160_8 : decode cJ0_checkIndex_df160 8 = .ok (.pop, 1) := by decide +kernel
theorem dJ0_checkIndex_df160_9 : decode cJ0_checkIndex_df160 9 = .ok (.return_, 1) := by decide +kernel
set_option maxRecDepth 20000 in
theorem ggJ1_charAt_3b067_J0_checkIndex_df160 : GoodIn wsJ1_charAt_3b067 wsJ0_checkIndex_df160 := goodIn_r _ [4, 5, 6, 7, 8, 9] (by decide +kernel) (by decide +kernel)
set_option maxRecDepth 20000 in
theorem gJ1_charAt_3b067_J0_checkIndex_df160 : GoodIn wsJ1_charAt_3b067 (va_wsS RJ1 9 yJ0_checkIndex_df160 wsJ0_checkIndex_df160) := goodIn_app (goodIn_of _ (by decide +kernel)) ggJ1_charAt_3b067_J0_checkIndex_df160
theorem dJ1_charAt_3b067_0 : decode cJ1_charAt_3b067 0 = .ok (.iload_n 1, 1) := by decide +kernel
theorem dJ1_charAt_3b067_1 : decode cJ1_charAt_3b067 1 = .ok (.aload_n 0, 1) := by decide +kernel
theorem dJ1_charAt_3b067_2 : decode cJ1_charAt_3b067 2 = .ok (.arraylength, 1) := by decide +kernel
theorem dJ1_charAt_3b067_3 : decode cJ1_charAt_3b067 3 = .ok (.invokestatic 9, 3) := by decide +kernel
theorem dJ1_charAt_3b067_6 : decode cJ1_charAt_3b067 6 = .ok (.aload_n 0, 1) := by decide +kernel
theorem dJ1_charAt_3b067_7 : decode cJ1_charAt_3b067 7 = .ok (.iload_n 1, 1) := by decide +kernel
theorem dJ1_charAt_3b067_8 : decode cJ1_charAt_3b067 8 = .ok (.baload, 1) := by decide +kernel
theorem dJ1_charAt_3b067_9 : decode cJ1_charAt_3b067 9 = .ok (.sipush 255, 3) := by decide +kernel
theorem dJ1_charAt_3b067_12 : decode cJ1_charAt_3b067 12 = .ok (.iand, 1) := by decide +kernel
theorem dJ1_charAt_3b067_13 : decode cJ1_charAt_3b067 13 = .ok (.i2c, 1) := by decide +kernel
theorem dJ1_charAt_3b067_14 : decode cJ1_charAt_3b067 14 = .ok (.ireturn, 1) := by decide +kernel
set_option maxRecDepth 20000 in
theorem ggJ2_getChar_3b067_J2_length_9d52b : GoodIn wsJ2_getChar_3b067 wsJ2_length_9d52b := goodIn_r _ [7] (by decide +kernel) (by decide +kernel)
set_option maxRecDepth 20000 in
theorem gJ2_getChar_3b067_J2_length_9d52b : GoodIn wsJ2_getChar_3b067 (va_wsS RJ2 48 yJ2_length_9d52b wsJ2_length_9d52b) := goodIn_app (goodIn_of _ (by decide +kernel)) ggJ2_getChar_3b067_J2_length_9d52b
theorem dJ2_getChar_3b067_0 : decode cJ2_getChar_3b067 0 = .ok (.getstatic 44, 3) := by decide +kernel
theorem dJ2_getChar_3b067_3 : decode cJ2_getChar_3b067 3 = .ok (.ifCond .ne 25, 3) := by decide +kernel
theorem dJ2_getChar_3b067_6 : decode cJ2_getChar_3b067 6 = .ok (.iload_n 1, 1) := by decide +kernel
theorem dJ2_getChar_3b067_7 : decode cJ2_getChar_3b067 7 = .ok (.ifCond .lt 11, 3) := by decide +kernel
theorem dJ2_getChar_3b067_10 : decode cJ2_getChar_3b067 10 = .ok (.iload_n 1, 1) := by decide +kernel
theorem dJ2_getChar_3b067_11 : decode cJ2_getChar_3b067 11 = .ok (.aload_n 0, 1) := by decide +kernel
theorem dJ2_getChar_3b067_12 : decode cJ2_getChar_3b067 12 = .ok (.invokestatic 48, 3) := by decide +kernel
theorem dJ2_getChar_3b067_15 : decode cJ2_getChar_3b067 15 = .ok (.if_icmp .lt 13, 3) := by decide +kernel
theorem dJ2_getChar_3b067_18 : decode cJ2_getChar_3b067 18 = .ok (.new 52, 3) := by decide +kernel
theorem dJ2_getChar_3b067_21 : decode cJ2_getChar_3b067 21 = .ok (.dup, 1) := by decide +kernel
theorem dJ2_getChar_3b067_22 : decode cJ2_getChar_3b067 22 = .ok (.ldc 54, 2) := by decide +kernel
theorem dJ2_getChar_3b067_24 : decode cJ2_getChar_3b067 24 = .ok (.invokespecial 56, 3) := by decide +kernel
theorem dJ2_getChar_3b067_27 : decode cJ2_getChar_3b067 27 = .ok (.athrow, 1) := by decide +kernel
theorem dJ2_getChar_3b067_28 : decode cJ2_getChar_3b067 28 = .ok (.iload_n 1, 1) := by decide +kernel
theorem dJ2_getChar_3b067_29 : decode cJ2_getChar_3b067 29 = .ok (.iconst 1, 1) := by decide +kernel
theorem dJ2_getChar_3b067_30 : decode cJ2_getChar_3b067 30 = .ok (.ishl, 1) := by decide +kernel
theorem dJ2_getChar_3b067_31 : decode cJ2_getChar_3b067 31 = .ok (.istore_n 1, 1) := by decide +kernel
theorem dJ2_getChar_3b067_32 : decode cJ2_getChar_3b067 32 = .ok (.aload_n 0, 1) := by decide +kernel
theorem dJ2_getChar_3b067_33 : decode cJ2_getChar_3b067 33 = .ok (.iload_n 1, 1) := by decide +kernel
theorem dJ2_getChar_3b067_34 : decode cJ2_getChar_3b067 34 = .ok (.iinc 1 1, 3) := by decide +kernel
theorem dJ2_getChar_3b067_37 : decode cJ2_getChar_3b067 37 = .ok (.baload, 1) := by decide +kernel
theorem dJ2_getChar_3b067_38 : decode cJ2_getChar_3b067 38 = .ok (.sipush 255, 3) := by decide +kernel
theorem dJ2_getChar_3b067_41 : decode cJ2_getChar_3b067 41 = .ok (.iand, 1) := by decide +kernel
theorem dJ2_getChar_3b067_42 : decode cJ2_getChar_3b067 42 = .ok (.getstatic 59, 3) := by decide +kernel
theorem dJ2_getChar_3b067_45 : decode cJ2_getChar_3b067 45 = .ok (.ishl, 1) := by decide +kernel
theorem dJ2_getChar_3b067_46 : decode cJ2_getChar_3b067 46 = .ok (.aload_n 0, 1) := by decide +kernel
theorem dJ2_getChar_3b067_47 : decode cJ2_getChar_3b067 47 = .ok (.iload_n 1, 1) := by decide +kernel
theorem dJ2_getChar_3b067_48 : decode cJ2_getChar_3b067 48 = .ok (.baload, 1) := by decide +kernel
theorem dJ2_getChar_3b067_49 : decode cJ2_getChar_3b067 49 = .ok (.sipush 255, 3) := by decide +kernel
theorem dJ2_getChar_3b067_52 : decode cJ2_getChar_3b067 52 = .ok (.iand, 1) := by decide +kernel
theorem dJ2_getChar_3b067_53 : decode cJ2_getChar_3b067 53 = .ok (.getstatic 63, 3) := by decide +kernel
theorem dJ2_getChar_3b067_56 : decode cJ2_getChar_3b067 56 = .ok (.ishl, 1) := by decide +kernel
theorem dJ2_getChar_3b067_57 : decode cJ2_getChar_3b067 57 = .ok (.ior, 1) := by decide +kernel
theorem dJ2_getChar_3b067_58 : decode cJ2_getChar_3b067 58 = .ok (.i2c, 1) := by decide +kernel
theorem dJ2_getChar_3b067_59 : decode cJ2_getChar_3b067 59 = .ok (.ireturn, 1) := by decide +kernel
theorem dJ2_length_9d52b_0 : decode cJ2_length_9d52b 0 = .ok (.aload_n 0, 1) := by decide +kernel
theorem dJ2_length_9d52b_1 : decode cJ2_length_9d52b 1 = .ok (.arraylength, 1) := by decide +kernel
theorem dJ2_length_9d52b_2 : decode cJ2_length_9d52b 2 = .ok (.iconst 1, 1) := by decide +kernel
theorem dJ2_length_9d52b_3 : decode cJ2_length_9d52b 3 = .ok (.ishr, 1) := by decide +kernel
theorem dJ2_length_9d52b_4 : decode cJ2_length_9d52b 4 = .ok (.ireturn, 1) := by decide +kernel
set_option maxRecDepth 20000 in
theorem ggJ2_charAt_3b067_J2_checkIndex_2214a : GoodIn wsJ2_charAt_3b067 wsJ2_checkIndex_2214a := goodIn_r _ [4, 5, 6, 3, 7, 8, 9, 10, 11, 12, 13, 14, 15, 16] (by decide +kernel) (by decide +kernel)
set_option maxRecDepth 20000 in
theorem gJ2_charAt_3b067_J2_checkIndex_2214a : GoodIn wsJ2_charAt_3b067 (va_wsS RJ2 67 yJ2_checkIndex_2214a wsJ2_checkIndex_2214a) := goodIn_app (goodIn_of _ (by decide +kernel)) ggJ2_charAt_3b067_J2_checkIndex_2214a
set_option maxRecDepth 20000 in
theorem ggJ2_charAt_3b067_J2_getChar_3b067 : GoodIn wsJ2_charAt_3b067 wsJ2_getChar_3b067 := goodIn_r _ [19, 20, 21, 22, 5, 6, 3, 7] (by decide +kernel) (by decide +kernel)
set_option maxRecDepth 20000 in
theorem gJ2_charAt_3b067_J2_getChar_3b067 : GoodIn wsJ2_charAt_3b067 (va_wsS RJ2 71 yJ2_getChar_3b067 wsJ2_getChar_3b067) := goodIn_app (goodIn_of _ (by decide +kernel)) ggJ2_charAt_3b067_J2_getChar_3b067
theorem dJ2_charAt_3b067_0 : decode cJ2_charAt_3b067 0 = .ok (.iload_n 1, 1) := by decide +kernel
theorem dJ2_charAt_3b067_1 : decode cJ2_charAt_3b067 1 = .ok (.aload_n 0, 1) := by decide +kernel
theorem dJ2_charAt_3b067_2 : decode cJ2_charAt_3b067 2 = .ok (.invokestatic 67, 3) := by decide +kernel
theorem dJ2_charAt_3b067_5 : decode cJ2_charAt_3b067 5 = .ok (.aload_n 0, 1) := by decide +kernel
theorem dJ2_charAt_3b067_6 : decode cJ2_charAt_3b067 6 = .ok (.iload_n 1, 1) := by decide +kernel
theorem dJ2_charAt_3b067_7 : decode cJ2_charAt_3b067 7 = .ok (.invokestatic 71, 3) := by decide +kernel
theorem dJ2_charAt_3b067_10 : decode cJ2_charAt_3b067 10 = .ok (.ireturn, 1) := by decide +kernel
set_option maxRecDepth 20000 in
theorem ggJ2_checkIndex_2214a_J2_length_9d52b : GoodIn wsJ2_checkIndex_2214a wsJ2_length_9d52b := goodIn_r _ [4] (by decide +kernel) (by decide +kernel)
set_option maxRecDepth 20000 in
theorem gJ2_checkIndex_2214a_J2_length_9d52b : GoodIn wsJ2_checkIndex_2214a (va_wsS RJ2 48 yJ2_length_9d52b wsJ2_length_9d52b) := goodIn_app (goodIn_of _ (by decide +kernel)) ggJ2_checkIndex_2214a_J2_length_9d52b
set_option maxRecDepth 20000 in
theorem ggJ2_checkIndex_2214a_J0_checkIndex_df160 : GoodIn wsJ2_checkIndex_2214a wsJ0_checkIndex_df160 := goodIn_r _ [8, 9, 10, 11, 12, 13] (by decide +kernel) (by decide +kernel)
set_option maxRecDepth 20000 in
theorem gJ2_checkIndex_2214a_J0_checkIndex_df160 : GoodIn wsJ2_checkIndex_2214a (va_wsS RJ2 414 yJ0_checkIndex_df160 wsJ0_checkIndex_df160) := goodIn_app (goodIn_of _ (by decide +kernel)) ggJ2_checkIndex_2214a_J0_checkIndex_df160
theorem dJ2_checkIndex_2214a_0 : decode cJ2_checkIndex_2214a 0 = .ok (.iload_n 0, 1) := by decide +kernel
theorem dJ2_checkIndex_2214a_1 : decode cJ2_checkIndex_2214a 1 = .ok (.aload_n 1, 1) := by decide +kernel
theorem dJ2_checkIndex_2214a_2 : decode cJ2_checkIndex_2214a 2 = .ok (.invokestatic 48, 3) := by decide +kernel
theorem dJ2_checkIndex_2214a_5 : decode cJ2_checkIndex_2214a 5 = .ok (.invokestatic 414, 3) := by decide +kernel
theorem dJ2_checkIndex_2214a_8 : decode cJ2_checkIndex_2214a 8 = .ok (.return_, 1) := by decide +kernel
theorem dJ3_checkIndex_8e157_0 : decode cJ3_checkIndex_8e157 0 = .ok (.iload_n 0, 1) := by decide +kernel
theorem dJ3_checkIndex_8e157_1 : decode cJ3_checkIndex_8e157 1 = .ok (.ifCond .lt 8, 3) := by decide +kernel
theorem dJ3_checkIndex_8e157_4 : decode cJ3_checkIndex_8e157 4 = .ok (.iload_n 0, 1) := by decide +kernel
theorem dJ3_checkIndex_8e157_5 : decode cJ3_checkIndex_8e157 5 = .ok (.iload_n 1, 1) := by decide +kernel
theorem dJ3_checkIndex_8e157_6 : decode cJ3_checkIndex_8e157 6 = .ok (.if_icmp .lt 10, 3) := by decide +kernel
theorem dJ3_checkIndex_8e157_9 : decode cJ3_checkIndex_8e157 9 = .ok (.aload_n 2, 1) := by decide +kernel
theorem dJ3_checkIndex_8e157_10 : decode cJ3_checkIndex_8e157 10 = .ok (.iload_n 0, 1) := by decide +kernel
theorem dJ3_checkIndex_8e157_11 : decode cJ3_checkIndex_8e157 11 = .ok (.iload_n 1, 1) := by decide +kernel
theorem dJ3_checkIndex_8e157_12 : decode cJ3_checkIndex_8e157 12 = .ok (.invokestatic 95, 3) := by decide +kernel
theorem dJ3_checkIndex_8e157_15 : decode cJ3_checkIndex_8e157 15 = .ok (.athrow, 1) := by decide +kernel
theorem dJ3_checkIndex_8e157_16 : decode cJ3_checkIndex_8e157 16 = .ok (.iload_n 0, 1) := by decide +kernel
theorem dJ3_checkIndex_8e157_17 : decode cJ3_checkIndex_8e157 17 = .ok (.ireturn, 1) := by decide +kernel
