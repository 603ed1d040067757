theorem dX9_whyNotDeliver_13 : decode cX9_whyNotDeliver 13 = .ok (.iload_n 1, 1) := by decide +kernel
theorem dX9_whyNotDeliver_14 : decode cX9_whyNotDeliver 14 = .ok (.invokestatic 80, 3) := by decide +kernel
theorem dX9_whyNotDeliver_17 : decode cX9_whyNotDeliver 17 = .ok (.ifCond .eq 23, 3) := by decide +kernel
theorem dX9_whyNotDeliver_20 : decode cX9_whyNotDeliver 20 = .ok (.aload_n 0, 1) := by decide +kernel
theorem dX9_whyNotDeliver_21 : decode cX9_whyNotDeliver 21 = .ok (.aload_n 0, 1) := by decide +kernel
theorem dX9_whyNotDeliver_22 : decode cX9_whyNotDeliver 22 = .ok (.iload_n 1, 1) := by decide +kernel
theorem dX9_whyNotDeliver_23 : decode cX9_whyNotDeliver 23 = .ok (.iconst 1, 1) := by decide +kernel
theorem dX9_whyNotDeliver_24 : decode cX9_whyNotDeliver 24 = .ok (.invokestatic 45, 3) := by decide +kernel
theorem dX9_whyNotDeliver_27 : decode cX9_whyNotDeliver 27 = .ok (.aload_n 0, 1) := by decide +kernel
theorem dX9_whyNotDeliver_28 : decode cX9_whyNotDeliver 28 = .ok (.iload_n 1, 1) := by decide +kernel
theorem dX9_whyNotDeliver_29 : decode cX9_whyNotDeliver 29 = .ok (.iconst 0, 1) := by decide +kernel
theorem dX9_whyNotDeliver_30 : decode cX9_whyNotDeliver 30 = .ok (.invokestatic 45, 3) := by decide +kernel
theorem dX9_whyNotDeliver_33 : decode cX9_whyNotDeliver 33 = .ok (.invokestatic 101, 3) := by decide +kernel
theorem dX9_whyNotDeliver_36 : decode cX9_whyNotDeliver 36 = .ok (.iconst (-1), 1) := by decide +kernel
theorem dX9_whyNotDeliver_37 : decode cX9_whyNotDeliver 37 = .ok (.if_icmp .ne 7, 3) := by decide +kernel
theorem dX9_whyNotDeliver_40 : decode cX9_whyNotDeliver 40 = .ok (.iconst 2, 1) := by decide +kernel
theorem dX9_whyNotDeliver_41 : decode cX9_whyNotDeliver 41 = .ok (.goto 4, 3) := by decide +kernel
theorem dX9_whyNotDeliver_44 : decode cX9_whyNotDeliver 44 = .ok (.iconst 0, 1) := by decide +kernel
theorem dX9_whyNotDeliver_45 : decode cX9_whyNotDeliver 45 = .ok (.ireturn, 1) := by decide +kernel
set_option maxRecDepth 20000 in
theorem ggX9_deliverOn_X9_of : GoodIn wsX9_deliverOn wsX9_of := goodIn_r _ [4] (by decide +kernel) (by decide +kernel)
set_option maxRecDepth 20000 in
theorem gX9_deliverOn_X9_of : GoodIn wsX9_deliverOn (va_wsS RX9 45 yX9_of wsX9_of) := goodIn_app (goodIn_of _ (by decide +kernel)) ggX9_deliverOn_X9_of
set_option maxRecDepth 20000 in
theorem ggX9_deliverOn_X9_coresAt : GoodIn wsX9_deliverOn wsX9_coresAt := goodIn_r _ [7] (by decide +kernel) (by decide +kernel)
set_option maxRecDepth 20000 in
theorem gX9_deliverOn_X9_coresAt : GoodIn wsX9_deliverOn (va_wsS RX9 97 yX9_coresAt wsX9_coresAt) := goodIn_app (goodIn_of _ (by decide +kernel)) ggX9_deliverOn_X9_coresAt
set_option maxRecDepth 20000 in
theorem ggX9_deliverOn_X9_oldest : GoodIn wsX9_deliverOn wsX9_oldest := goodIn_r _ [10, 5, 6, 3, 7] (by decide +kernel) (by decide +kernel)
set_option maxRecDepth 20000 in
theorem gX9_deliverOn_X9_oldest : GoodIn wsX9_deliverOn (va_wsS RX9 101 yX9_oldest wsX9_oldest) := goodIn_app (goodIn_of _ (by decide +kernel)) ggX9_deliverOn_X9_oldest
set_option maxRecDepth 20000 in
theorem ggX9_deliverOn_X9_priceOf : GoodIn wsX9_deliverOn wsX9_priceOf := goodIn_r _ [13, 14, 15, 3, 16, 1, 2, 4] (by decide +kernel) (by decide +kernel)
set_option maxRecDepth 20000 in
theorem gX9_deliverOn_X9_priceOf : GoodIn wsX9_deliverOn (va_wsS RX9 90 yX9_priceOf wsX9_priceOf) := goodIn_app (goodIn_of _ (by decide +kernel)) ggX9_deliverOn_X9_priceOf
set_option maxRecDepth 20000 in
theorem ggX9_deliverOn_X9_late : GoodIn wsX9_deliverOn wsX9_late := goodIn_r _ [19] (by decide +kernel) (by decide +kernel)
set_option maxRecDepth 20000 in
theorem gX9_deliverOn_X9_late : GoodIn wsX9_deliverOn (va_wsS RX9 53 yX9_late wsX9_late) := goodIn_app (goodIn_of _ (by decide +kernel)) ggX9_deliverOn_X9_late
set_option maxRecDepth 20000 in
theorem ggX9_deliverOn_X9_give : GoodIn wsX9_deliverOn wsX9_give := goodIn_r _ [22, 23, 24, 3, 25] (by decide +kernel) (by decide +kernel)
set_option maxRecDepth 20000 in
theorem gX9_deliverOn_X9_give : GoodIn wsX9_deliverOn (va_wsS RX9 93 yX9_give wsX9_give) := goodIn_app (goodIn_of _ (by decide +kernel)) ggX9_deliverOn_X9_give
set_option maxRecDepth 20000 in
theorem ggX9_deliverOn_X9_pays : GoodIn wsX9_deliverOn wsX9_pays := goodIn_r _ [28] (by decide +kernel) (by decide +kernel)
set_option maxRecDepth 20000 in
theorem gX9_deliverOn_X9_pays : GoodIn wsX9_deliverOn (va_wsS RX9 77 yX9_pays wsX9_pays) := goodIn_app (goodIn_of _ (by decide +kernel)) ggX9_deliverOn_X9_pays
theorem dX9_deliverOn_0 : decode cX9_deliverOn 0 = .ok (.aload_n 0, 1) := by decide +kernel
theorem dX9_deliverOn_1 : decode cX9_deliverOn 1 = .ok (.iload_n 1, 1) := by decide +kernel
theorem dX9_deliverOn_2 : decode cX9_deliverOn 2 = .ok (.iconst 1, 1) := by decide +kernel
theorem dX9_deliverOn_3 : decode cX9_deliverOn 3 = .ok (.invokestatic 45, 3) := by decide +kernel
theorem dX9_deliverOn_6 : decode cX9_deliverOn 6 = .ok (.istore_n 2, 1) := by decide +kernel
theorem dX9_deliverOn_7 : decode cX9_deliverOn 7 = .ok (.iload_n 2, 1) := by decide +kernel
theorem dX9_deliverOn_8 : decode cX9_deliverOn 8 = .ok (.invokestatic 97, 3) := by decide +kernel
theorem dX9_deliverOn_11 : decode cX9_deliverOn 11 = .ok (.istore_n 3, 1) := by decide +kernel
theorem dX9_deliverOn_12 : decode cX9_deliverOn 12 = .ok (.aload_n 0, 1) := by decide +kernel
theorem dX9_deliverOn_13 : decode cX9_deliverOn 13 = .ok (.iload_n 2, 1) := by decide +kernel
theorem dX9_deliverOn_14 : decode cX9_deliverOn 14 = .ok (.aload_n 0, 1) := by decide +kernel
theorem dX9_deliverOn_15 : decode cX9_deliverOn 15 = .ok (.iload_n 1, 1) := by decide +kernel
theorem dX9_deliverOn_16 : decode cX9_deliverOn 16 = .ok (.iconst 0, 1) := by decide +kernel
theorem dX9_deliverOn_17 : decode cX9_deliverOn 17 = .ok (.invokestatic 45, 3) := by decide +kernel
theorem dX9_deliverOn_20 : decode cX9_deliverOn 20 = .ok (.invokestatic 101, 3) := by decide +kernel
theorem dX9_deliverOn_23 : decode cX9_deliverOn 23 = .ok (.istore 4, 2) := by decide +kernel
theorem dX9_deliverOn_25 : decode cX9_deliverOn 25 = .ok (.aload_n 0, 1) := by decide +kernel
theorem dX9_deliverOn_26 : decode cX9_deliverOn 26 = .ok (.iload_n 1, 1) := by decide +kernel
theorem dX9_deliverOn_27 : decode cX9_deliverOn 27 = .ok (.invokestatic 90, 3) := by decide +kernel
theorem dX9_deliverOn_30 : decode cX9_deliverOn 30 = .ok (.aload_n 0, 1) := by decide +kernel
theorem dX9_deliverOn_31 : decode cX9_deliverOn 31 = .ok (.aload_n 0, 1) := by decide +kernel
theorem dX9_deliverOn_32 : decode cX9_deliverOn 32 = .ok (.iload_n 3, 1) := by decide +kernel
theorem dX9_deliverOn_33 : decode cX9_deliverOn 33 = .ok (.iconst 2, 1) := by decide +kernel
theorem dX9_deliverOn_34 : decode cX9_deliverOn 34 = .ok (.iadd, 1) := by decide +kernel
theorem dX9_deliverOn_35 : decode cX9_deliverOn 35 = .ok (.iconst 2, 1) := by decide +kernel
theorem dX9_deliverOn_36 : decode cX9_deliverOn 36 = .ok (.iload 4, 2) := by decide +kernel
theorem dX9_deliverOn_38 : decode cX9_deliverOn 38 = .ok (.imul, 1) := by decide +kernel
theorem dX9_deliverOn_39 : decode cX9_deliverOn 39 = .ok (.iadd, 1) := by decide +kernel
theorem dX9_deliverOn_40 : decode cX9_deliverOn 40 = .ok (.iaload, 1) := by decide +kernel
theorem dX9_deliverOn_41 : decode cX9_deliverOn 41 = .ok (.iconst 0, 1) := by decide +kernel
theorem dX9_deliverOn_42 : decode cX9_deliverOn 42 = .ok (.invokestatic 53, 3) := by decide +kernel
theorem dX9_deliverOn_45 : decode cX9_deliverOn 45 = .ok (.iadd, 1) := by decide +kernel
theorem dX9_deliverOn_46 : decode cX9_deliverOn 46 = .ok (.istore 5, 2) := by decide +kernel
theorem dX9_deliverOn_48 : decode cX9_deliverOn 48 = .ok (.aload_n 0, 1) := by decide +kernel
theorem dX9_deliverOn_49 : decode cX9_deliverOn 49 = .ok (.iload_n 3, 1) := by decide +kernel
theorem dX9_deliverOn_50 : decode cX9_deliverOn 50 = .ok (.dup2, 1) := by decide +kernel
theorem dX9_deliverOn_51 : decode cX9_deliverOn 51 = .ok (.iaload, 1) := by decide +kernel
theorem dX9_deliverOn_52 : decode cX9_deliverOn 52 = .ok (.iconst 1, 1) := by decide +kernel
theorem dX9_deliverOn_53 : decode cX9_deliverOn 53 = .ok (.isub, 1) := by decide +kernel
theorem dX9_deliverOn_54 : decode cX9_deliverOn 54 = .ok (.iastore, 1) := by decide +kernel
theorem dX9_deliverOn_55 : decode cX9_deliverOn 55 = .ok (.iload_n 3, 1) := by decide +kernel
theorem dX9_deliverOn_56 : decode cX9_deliverOn 56 = .ok (.iconst 1, 1) := by decide +kernel
theorem dX9_deliverOn_57 : decode cX9_deliverOn 57 = .ok (.iadd, 1) := by decide +kernel
theorem dX9_deliverOn_58 : decode cX9_deliverOn 58 = .ok (.iconst 2, 1) := by decide +kernel
theorem dX9_deliverOn_59 : decode cX9_deliverOn 59 = .ok (.iload 4, 2) := by decide +kernel
theorem dX9_deliverOn_61 : decode cX9_deliverOn 61 = .ok (.imul, 1) := by decide +kernel
theorem dX9_deliverOn_62 : decode cX9_deliverOn 62 = .ok (.iadd, 1) := by decide +kernel
theorem dX9_deliverOn_63 : decode cX9_deliverOn 63 = .ok (.istore 6, 2) := by decide +kernel
theorem dX9_deliverOn_65 : decode cX9_deliverOn 65 = .ok (.iload 6, 2) := by decide +kernel
theorem dX9_deliverOn_67 : decode cX9_deliverOn 67 = .ok (.iload_n 3, 1) := by decide +kernel
theorem dX9_deliverOn_68 : decode cX9_deliverOn 68 = .ok (.iconst 1, 1) := by decide +kernel
theorem dX9_deliverOn_69 : decode cX9_deliverOn 69 = .ok (.iadd, 1) := by decide +kernel
theorem dX9_deliverOn_70 : decode cX9_deliverOn 70 = .ok (.iconst 2, 1) := by decide +kernel
theorem dX9_deliverOn_71 : decode cX9_deliverOn 71 = .ok (.aload_n 0, 1) := by decide +kernel
theorem dX9_deliverOn_72 : decode cX9_deliverOn 72 = .ok (.iload_n 3, 1) := by decide +kernel
theorem dX9_deliverOn_73 : decode cX9_deliverOn 73 = .ok (.iaload, 1) := by decide +kernel
theorem dX9_deliverOn_74 : decode cX9_deliverOn 74 = .ok (.imul, 1) := by decide +kernel
theorem dX9_deliverOn_75 : decode cX9_deliverOn 75 = .ok (.iadd, 1) := by decide +kernel
theorem dX9_deliverOn_76 : decode cX9_deliverOn 76 = .ok (.if_icmp .ge 19, 3) := by decide +kernel
theorem dX9_deliverOn_79 : decode cX9_deliverOn 79 = .ok (.aload_n 0, 1) := by decide +kernel
theorem dX9_deliverOn_80 : decode cX9_deliverOn 80 = .ok (.iload 6, 2) := by decide +kernel
theorem dX9_deliverOn_82 : decode cX9_deliverOn 82 = .ok (.aload_n 0, 1) := by decide +kernel
theorem dX9_deliverOn_83 : decode cX9_deliverOn 83 = .ok (.iload 6, 2) := by decide +kernel
theorem dX9_deliverOn_85 : decode cX9_deliverOn 85 = .ok (.iconst 2, 1) := by decide +kernel
theorem dX9_deliverOn_86 : decode cX9_deliverOn 86 = .ok (.iadd, 1) := by decide +kernel
theorem dX9_deliverOn_87 : decode cX9_deliverOn 87 = .ok (.iaload, 1) := by decide +kernel
theorem dX9_deliverOn_88 : decode cX9_deliverOn 88 = .ok (.iastore, 1) := by decide +kernel
theorem dX9_deliverOn_89 : decode cX9_deliverOn 89 = .ok (.iinc 6 1, 3) := by decide +kernel
theorem dX9_deliverOn_92 : decode cX9_deliverOn 92 = .ok (.goto (-27), 3) := by decide +kernel
theorem dX9_deliverOn_95 : decode cX9_deliverOn 95 = .ok (.aload_n 0, 1) := by decide +kernel
theorem dX9_deliverOn_96 : decode cX9_deliverOn 96 = .ok (.iload_n 3, 1) := by decide +kernel
theorem dX9_deliverOn_97 : decode cX9_deliverOn 97 = .ok (.iconst 1, 1) := by decide +kernel
theorem dX9_deliverOn_98 : decode cX9_deliverOn 98 = .ok (.iadd, 1) := by decide +kernel
theorem dX9_deliverOn_99 : decode cX9_deliverOn 99 = .ok (.iconst 2, 1) := by decide +kernel
theorem dX9_deliverOn_100 : decode cX9_deliverOn 100 = .ok (.aload_n 0, 1) := by decide +kernel
theorem dX9_deliverOn_101 : decode cX9_deliverOn 101 = .ok (.iload_n 3, 1) := by decide +kernel
theorem dX9_deliverOn_102 : decode cX9_deliverOn 102 = .ok (.iaload, 1) := by decide +kernel
theorem dX9_deliverOn_103 : decode cX9_deliverOn 103 = .ok (.imul, 1) := by decide +kernel
theorem dX9_deliverOn_104 : decode cX9_deliverOn 104 = .ok (.iadd, 1) := by decide +kernel
theorem dX9_deliverOn_105 : decode cX9_deliverOn 105 = .ok (.iconst 0, 1) := by decide +kernel
theorem dX9_deliverOn_106 : decode cX9_deliverOn 106 = .ok (.iastore, 1) := by decide +kernel
theorem dX9_deliverOn_107 : decode cX9_deliverOn 107 = .ok (.aload_n 0, 1) := by decide +kernel
theorem dX9_deliverOn_108 : decode cX9_deliverOn 108 = .ok (.iload_n 3, 1) := by decide +kernel
theorem dX9_deliverOn_109 : decode cX9_deliverOn 109 = .ok (.iconst 2, 1) := by decide +kernel
theorem dX9_deliverOn_110 : decode cX9_deliverOn 110 = .ok (.iadd, 1) := by decide +kernel
theorem dX9_deliverOn_111 : decode cX9_deliverOn 111 = .ok (.iconst 2, 1) := by decide +kernel
theorem dX9_deliverOn_112 : decode cX9_deliverOn 112 = .ok (.aload_n 0, 1) := by decide +kernel
theorem dX9_deliverOn_113 : decode cX9_deliverOn 113 = .ok (.iload_n 3, 1) := by decide +kernel
theorem dX9_deliverOn_114 : decode cX9_deliverOn 114 = .ok (.iaload, 1) := by decide +kernel
theorem dX9_deliverOn_115 : decode cX9_deliverOn 115 = .ok (.imul, 1) := by decide +kernel
theorem dX9_deliverOn_116 : decode cX9_deliverOn 116 = .ok (.iadd, 1) := by decide +kernel
theorem dX9_deliverOn_117 : decode cX9_deliverOn 117 = .ok (.iconst 0, 1) := by decide +kernel
theorem dX9_deliverOn_118 : decode cX9_deliverOn 118 = .ok (.iastore, 1) := by decide +kernel
theorem dX9_deliverOn_119 : decode cX9_deliverOn 119 = .ok (.aload_n 0, 1) := by decide +kernel
theorem dX9_deliverOn_120 : decode cX9_deliverOn 120 = .ok (.iload_n 1, 1) := by decide +kernel
theorem dX9_deliverOn_121 : decode cX9_deliverOn 121 = .ok (.iconst 4, 1) := by decide +kernel
theorem dX9_deliverOn_122 : decode cX9_deliverOn 122 = .ok (.invokestatic 93, 3) := by decide +kernel
theorem dX9_deliverOn_125 : decode cX9_deliverOn 125 = .ok (.aload_n 0, 1) := by decide +kernel
theorem dX9_deliverOn_126 : decode cX9_deliverOn 126 = .ok (.iload_n 2, 1) := by decide +kernel
theorem dX9_deliverOn_127 : decode cX9_deliverOn 127 = .ok (.iconst 4, 1) := by decide +kernel
theorem dX9_deliverOn_128 : decode cX9_deliverOn 128 = .ok (.iload 5, 2) := by decide +kernel
theorem dX9_deliverOn_130 : decode cX9_deliverOn 130 = .ok (.invokestatic 77, 3) := by decide +kernel
theorem dX9_deliverOn_133 : decode cX9_deliverOn 133 = .ok (.iload 5, 2) := by decide +kernel
theorem dX9_deliverOn_135 : decode cX9_deliverOn 135 = .ok (.ireturn, 1) := by decide +kernel
set_option maxRecDepth 20000 in
theorem ggX9_whyNotTake_X9_isUnit : GoodIn wsX9_whyNotTake wsX9_isUnit := goodIn_r _ [4, 5, 6, 3, 7] (by decide +kernel) (by decide +kernel)
set_option maxRecDepth 20000 in
theorem gX9_whyNotTake_X9_isUnit : GoodIn wsX9_whyNotTake (va_wsS RX9 69 yX9_isUnit wsX9_isUnit) := goodIn_app (goodIn_of _ (by decide +kernel)) ggX9_whyNotTake_X9_isUnit
set_option maxRecDepth 20000 in
theorem ggX9_whyNotTake_X9_isPart : GoodIn wsX9_whyNotTake wsX9_isPart := goodIn_r _ [10, 11, 5, 6, 3, 7] (by decide +kernel) (by decide +kernel)
set_option maxRecDepth 20000 in
theorem gX9_whyNotTake_X9_isPart : GoodIn wsX9_whyNotTake (va_wsS RX9 104 yX9_isPart wsX9_isPart) := goodIn_app (goodIn_of _ (by decide +kernel)) ggX9_whyNotTake_X9_isPart
set_option maxRecDepth 20000 in
theorem ggX9_whyNotTake_X9_of : GoodIn wsX9_whyNotTake wsX9_of := goodIn_r _ [14] (by decide +kernel) (by decide +kernel)
set_option maxRecDepth 20000 in
theorem gX9_whyNotTake_X9_of : GoodIn wsX9_whyNotTake (va_wsS RX9 45 yX9_of wsX9_of) := goodIn_app (goodIn_of _ (by decide +kernel)) ggX9_whyNotTake_X9_of
theorem dX9_whyNotTake_0 : decode cX9_whyNotTake 0 = .ok (.aload_n 0, 1) := by decide +kernel
theorem dX9_whyNotTake_1 : decode cX9_whyNotTake 1 = .ok (.iload_n 1, 1) := by decide +kernel
theorem dX9_whyNotTake_2 : decode cX9_whyNotTake 2 = .ok (.invokestatic 69, 3) := by decide +kernel
theorem dX9_whyNotTake_5 : decode cX9_whyNotTake 5 = .ok (.ifCond .eq 18, 3) := by decide +kernel
theorem dX9_whyNotTake_8 : decode cX9_whyNotTake 8 = .ok (.aload_n 0, 1) := by decide +kernel
theorem dX9_whyNotTake_9 : decode cX9_whyNotTake 9 = .ok (.iload_n 2, 1) := by decide +kernel
theorem dX9_whyNotTake_10 : decode cX9_whyNotTake 10 = .ok (.invokestatic 69, 3) := by decide +kernel
theorem dX9_whyNotTake_13 : decode cX9_whyNotTake 13 = .ok (.ifCond .eq 10, 3) := by decide +kernel
theorem dX9_whyNotTake_16 : decode cX9_whyNotTake 16 = .ok (.iload_n 3, 1) := by decide +kernel
theorem dX9_whyNotTake_17 : decode cX9_whyNotTake 17 = .ok (.invokestatic 104, 3) := by decide +kernel
theorem dX9_whyNotTake_20 : decode cX9_whyNotTake 20 = .ok (.ifCond .ne 5, 3) := by decide +kernel
theorem dX9_whyNotTake_23 : decode cX9_whyNotTake 23 = .ok (.iconst 1, 1) := by decide +kernel
theorem dX9_whyNotTake_24 : decode cX9_whyNotTake 24 = .ok (.ireturn, 1) := by decide +kernel
theorem dX9_whyNotTake_25 : decode cX9_whyNotTake 25 = .ok (.aload_n 0, 1) := by decide +kernel
theorem dX9_whyNotTake_26 : decode cX9_whyNotTake 26 = .ok (.iload_n 1, 1) := by decide +kernel
theorem dX9_whyNotTake_27 : decode cX9_whyNotTake 27 = .ok (.iconst 0, 1) := by decide +kernel
theorem dX9_whyNotTake_28 : decode cX9_whyNotTake 28 = .ok (.invokestatic 45, 3) := by decide +kernel
theorem dX9_whyNotTake_31 : decode cX9_whyNotTake 31 = .ok (.aload_n 0, 1) := by decide +kernel
theorem dX9_whyNotTake_32 : decode cX9_whyNotTake 32 = .ok (.iload_n 2, 1) := by decide +kernel
theorem dX9_whyNotTake_33 : decode cX9_whyNotTake 33 = .ok (.iconst 0, 1) := by decide +kernel
theorem dX9_whyNotTake_34 : decode cX9_whyNotTake 34 = .ok (.invokestatic 45, 3) := by decide +kernel
theorem dX9_whyNotTake_37 : decode cX9_whyNotTake 37 = .ok (.if_icmp .ne 49, 3) := by decide +kernel
theorem dX9_whyNotTake_40 : decode cX9_whyNotTake 40 = .ok (.aload_n 0, 1) := by decide +kernel
theorem dX9_whyNotTake_41 : decode cX9_whyNotTake 41 = .ok (.iload_n 1, 1) := by decide +kernel
theorem dX9_whyNotTake_42 : decode cX9_whyNotTake 42 = .ok (.iconst 2, 1) := by decide +kernel
theorem dX9_whyNotTake_43 : decode cX9_whyNotTake 43 = .ok (.invokestatic 45, 3) := by decide +kernel
theorem dX9_whyNotTake_46 : decode cX9_whyNotTake 46 = .ok (.aload_n 0, 1) := by decide +kernel
theorem dX9_whyNotTake_47 : decode cX9_whyNotTake 47 = .ok (.iload_n 2, 1) := by decide +kernel
theorem dX9_whyNotTake_48 : decode cX9_whyNotTake 48 = .ok (.iconst 2, 1) := by decide +kernel
theorem dX9_whyNotTake_49 : decode cX9_whyNotTake 49 = .ok (.invokestatic 45, 3) := by decide +kernel
theorem dX9_whyNotTake_52 : decode cX9_whyNotTake 52 = .ok (.if_icmp .ne 34, 3) := by decide +kernel
theorem dX9_whyNotTake_55 : decode cX9_whyNotTake 55 = .ok (.aload_n 0, 1) := by decide +kernel
theorem dX9_whyNotTake_56 : decode cX9_whyNotTake 56 = .ok (.iload_n 1, 1) := by decide +kernel
theorem dX9_whyNotTake_57 : decode cX9_whyNotTake 57 = .ok (.iconst 3, 1) := by decide +kernel
theorem dX9_whyNotTake_58 : decode cX9_whyNotTake 58 = .ok (.invokestatic 45, 3) := by decide +kernel
theorem dX9_whyNotTake_61 : decode cX9_whyNotTake 61 = .ok (.iload_n 3, 1) := by decide +kernel
theorem dX9_whyNotTake_62 : decode cX9_whyNotTake 62 = .ok (.ishr, 1) := by decide +kernel
theorem dX9_whyNotTake_63 : decode cX9_whyNotTake 63 = .ok (.iconst 1, 1) := by decide +kernel
theorem dX9_whyNotTake_64 : decode cX9_whyNotTake 64 = .ok (.iand, 1) := by decide +kernel
theorem dX9_whyNotTake_65 : decode cX9_whyNotTake 65 = .ok (.iconst 1, 1) := by decide +kernel
theorem dX9_whyNotTake_66 : decode cX9_whyNotTake 66 = .ok (.if_icmp .ne 20, 3) := by decide +kernel
theorem dX9_whyNotTake_69 : decode cX9_whyNotTake 69 = .ok (.aload_n 0, 1) := by decide +kernel
theorem dX9_whyNotTake_70 : decode cX9_whyNotTake 70 = .ok (.iload_n 2, 1) := by decide +kernel
theorem dX9_whyNotTake_71 : decode cX9_whyNotTake 71 = .ok (.iconst 3, 1) := by decide +kernel
theorem dX9_whyNotTake_72 : decode cX9_whyNotTake 72 = .ok (.invokestatic 45, 3) := by decide +kernel
theorem dX9_whyNotTake_75 : decode cX9_whyNotTake 75 = .ok (.iload_n 3, 1) := by decide +kernel
theorem dX9_whyNotTake_76 : decode cX9_whyNotTake 76 = .ok (.ishr, 1) := by decide +kernel
theorem dX9_whyNotTake_77 : decode cX9_whyNotTake 77 = .ok (.iconst 1, 1) := by decide +kernel
theorem dX9_whyNotTake_78 : decode cX9_whyNotTake 78 = .ok (.iand, 1) := by decide +kernel
theorem dX9_whyNotTake_79 : decode cX9_whyNotTake 79 = .ok (.ifCond .ne 7, 3) := by decide +kernel
theorem dX9_whyNotTake_82 : decode cX9_whyNotTake 82 = .ok (.iconst 1, 1) := by decide +kernel
theorem dX9_whyNotTake_83 : decode cX9_whyNotTake 83 = .ok (.goto 4, 3) := by decide +kernel
theorem dX9_whyNotTake_86 : decode cX9_whyNotTake 86 = .ok (.iconst 0, 1) := by decide +kernel
theorem dX9_whyNotTake_87 : decode cX9_whyNotTake 87 = .ok (.istore 4, 2) := by decide +kernel
theorem dX9_whyNotTake_89 : decode cX9_whyNotTake 89 = .ok (.iload 4, 2) := by decide +kernel
theorem dX9_whyNotTake_91 : decode cX9_whyNotTake 91 = .ok (.ifCond .eq 7, 3) := by decide +kernel
theorem dX9_whyNotTake_94 : decode cX9_whyNotTake 94 = .ok (.iconst 0, 1) := by decide +kernel
theorem dX9_whyNotTake_95 : decode cX9_whyNotTake 95 = .ok (.goto 4, 3) := by decide +kernel
theorem dX9_whyNotTake_98 : decode cX9_whyNotTake 98 = .ok (.iconst 2, 1) := by decide +kernel
theorem dX9_whyNotTake_99 : decode cX9_whyNotTake 99 = .ok (.ireturn, 1) := by decide +kernel
set_option maxRecDepth 20000 in
theorem ggX9_takeOn_X9_of : GoodIn wsX9_takeOn wsX9_of := goodIn_r _ [4] (by decide +kernel) (by decide +kernel)
set_option maxRecDepth 20000 in
theorem gX9_takeOn_X9_of : GoodIn wsX9_takeOn (va_wsS RX9 45 yX9_of wsX9_of) := goodIn_app (goodIn_of _ (by decide +kernel)) ggX9_takeOn_X9_of
set_option maxRecDepth 20000 in
theorem ggX9_takeOn_X9_lay : GoodIn wsX9_takeOn wsX9_lay := goodIn_r _ [7] (by decide +kernel) (by decide +kernel)
set_option maxRecDepth 20000 in
theorem gX9_takeOn_X9_lay : GoodIn wsX9_takeOn (va_wsS RX9 65 yX9_lay wsX9_lay) := goodIn_app (goodIn_of _ (by decide +kernel)) ggX9_takeOn_X9_lay
set_option maxRecDepth 20000 in
theorem ggX9_takeOn_X9_owedAt : GoodIn wsX9_takeOn wsX9_owedAt := goodIn_r _ [10] (by decide +kernel) (by decide +kernel)
set_option maxRecDepth 20000 in
theorem gX9_takeOn_X9_owedAt : GoodIn wsX9_takeOn (va_wsS RX9 107 yX9_owedAt wsX9_owedAt) := goodIn_app (goodIn_of _ (by decide +kernel)) ggX9_takeOn_X9_owedAt
theorem dX9_takeOn_0 : decode cX9_takeOn 0 = .ok (.aload_n 0, 1) := by decide +kernel
theorem dX9_takeOn_1 : decode cX9_takeOn 1 = .ok (.iload_n 1, 1) := by decide +kernel
theorem dX9_takeOn_2 : decode cX9_takeOn 2 = .ok (.iconst 3, 1) := by decide +kernel
theorem dX9_takeOn_3 : decode cX9_takeOn 3 = .ok (.aload_n 0, 1) := by decide +kernel
theorem dX9_takeOn_4 : decode cX9_takeOn 4 = .ok (.iload_n 1, 1) := by decide +kernel
theorem dX9_takeOn_5 : decode cX9_takeOn 5 = .ok (.iconst 3, 1) := by decide +kernel
theorem dX9_takeOn_6 : decode cX9_takeOn 6 = .ok (.invokestatic 45, 3) := by decide +kernel
theorem dX9_takeOn_9 : decode cX9_takeOn 9 = .ok (.iconst 1, 1) := by decide +kernel
theorem dX9_takeOn_10 : decode cX9_takeOn 10 = .ok (.iload_n 3, 1) := by decide +kernel
theorem dX9_takeOn_11 : decode cX9_takeOn 11 = .ok (.ishl, 1) := by decide +kernel
theorem dX9_takeOn_12 : decode cX9_takeOn 12 = .ok (.ixor, 1) := by decide +kernel
theorem dX9_takeOn_13 : decode cX9_takeOn 13 = .ok (.invokestatic 65, 3) := by decide +kernel
theorem dX9_takeOn_16 : decode cX9_takeOn 16 = .ok (.aload_n 0, 1) := by decide +kernel
theorem dX9_takeOn_17 : decode cX9_takeOn 17 = .ok (.iload_n 2, 1) := by decide +kernel
theorem dX9_takeOn_18 : decode cX9_takeOn 18 = .ok (.iconst 3, 1) := by decide +kernel
theorem dX9_takeOn_19 : decode cX9_takeOn 19 = .ok (.aload_n 0, 1) := by decide +kernel
theorem dX9_takeOn_20 : decode cX9_takeOn 20 = .ok (.iload_n 2, 1) := by decide +kernel
theorem dX9_takeOn_21 : decode cX9_takeOn 21 = .ok (.iconst 3, 1) := by decide +kernel
theorem dX9_takeOn_22 : decode cX9_takeOn 22 = .ok (.invokestatic 45, 3) := by decide +kernel
theorem dX9_takeOn_25 : decode cX9_takeOn 25 = .ok (.iconst 1, 1) := by decide +kernel
theorem dX9_takeOn_26 : decode cX9_takeOn 26 = .ok (.iload_n 3, 1) := by decide +kernel
theorem dX9_takeOn_27 : decode cX9_takeOn 27 = .ok (.ishl, 1) := by decide +kernel
theorem dX9_takeOn_28 : decode cX9_takeOn 28 = .ok (.ior, 1) := by decide +kernel
theorem dX9_takeOn_29 : decode cX9_takeOn 29 = .ok (.invokestatic 65, 3) := by decide +kernel
theorem dX9_takeOn_32 : decode cX9_takeOn 32 = .ok (.aload_n 0, 1) := by decide +kernel
theorem dX9_takeOn_33 : decode cX9_takeOn 33 = .ok (.bipush 6, 2) := by decide +kernel
theorem dX9_takeOn_35 : decode cX9_takeOn 35 = .ok (.dup2, 1) := by decide +kernel
theorem dX9_takeOn_36 : decode cX9_takeOn 36 = .ok (.iaload, 1) := by decide +kernel
theorem dX9_takeOn_37 : decode cX9_takeOn 37 = .ok (.iconst 1, 1) := by decide +kernel
theorem dX9_takeOn_38 : decode cX9_takeOn 38 = .ok (.iadd, 1) := by decide +kernel
theorem dX9_takeOn_39 : decode cX9_takeOn 39 = .ok (.iastore, 1) := by decide +kernel
theorem dX9_takeOn_40 : decode cX9_takeOn 40 = .ok (.aload_n 0, 1) := by decide +kernel
theorem dX9_takeOn_41 : decode cX9_takeOn 41 = .ok (.iload_n 1, 1) := by decide +kernel
theorem dX9_takeOn_42 : decode cX9_takeOn 42 = .ok (.iconst 1, 1) := by decide +kernel
theorem dX9_takeOn_43 : decode cX9_takeOn 43 = .ok (.invokestatic 45, 3) := by decide +kernel
theorem dX9_takeOn_46 : decode cX9_takeOn 46 = .ok (.istore 4, 2) := by decide +kernel
theorem dX9_takeOn_48 : decode cX9_takeOn 48 = .ok (.aload_n 0, 1) := by decide +kernel
theorem dX9_takeOn_49 : decode cX9_takeOn 49 = .ok (.iload_n 2, 1) := by decide +kernel
theorem dX9_takeOn_50 : decode cX9_takeOn 50 = .ok (.iconst 1, 1) := by decide +kernel
theorem dX9_takeOn_51 : decode cX9_takeOn 51 = .ok (.invokestatic 45, 3) := by decide +kernel
theorem dX9_takeOn_54 : decode cX9_takeOn 54 = .ok (.istore 5, 2) := by decide +kernel
theorem dX9_takeOn_56 : decode cX9_takeOn 56 = .ok (.iload 4, 2) := by decide +kernel
theorem dX9_takeOn_58 : decode cX9_takeOn 58 = .ok (.iload 5, 2) := by decide +kernel
theorem dX9_takeOn_60 : decode cX9_takeOn 60 = .ok (.if_icmp .ne 5, 3) := by decide +kernel
theorem dX9_takeOn_63 : decode cX9_takeOn 63 = .ok (.iconst 0, 1) := by decide +kernel
theorem dX9_takeOn_64 : decode cX9_takeOn 64 = .ok (.ireturn, 1) := by decide +kernel
theorem dX9_takeOn_65 : decode cX9_takeOn 65 = .ok (.aload_n 0, 1) := by decide +kernel
theorem dX9_takeOn_66 : decode cX9_takeOn 66 = .ok (.iload_n 1, 1) := by decide +kernel
theorem dX9_takeOn_67 : decode cX9_takeOn 67 = .ok (.iconst 0, 1) := by decide +kernel
theorem dX9_takeOn_68 : decode cX9_takeOn 68 = .ok (.invokestatic 45, 3) := by decide +kernel
theorem dX9_takeOn_71 : decode cX9_takeOn 71 = .ok (.istore 6, 2) := by decide +kernel
theorem dX9_takeOn_73 : decode cX9_takeOn 73 = .ok (.iload 4, 2) := by decide +kernel
theorem dX9_takeOn_75 : decode cX9_takeOn 75 = .ok (.iload 5, 2) := by decide +kernel
theorem dX9_takeOn_77 : decode cX9_takeOn 77 = .ok (.iload 6, 2) := by decide +kernel
theorem dX9_takeOn_79 : decode cX9_takeOn 79 = .ok (.iload_n 3, 1) := by decide +kernel
theorem dX9_takeOn_80 : decode cX9_takeOn 80 = .ok (.invokestatic 107, 3) := by decide +kernel
theorem dX9_takeOn_83 : decode cX9_takeOn 83 = .ok (.istore 7, 2) := by decide +kernel
theorem dX9_takeOn_85 : decode cX9_takeOn 85 = .ok (.iload 5, 2) := by decide +kernel
theorem dX9_takeOn_87 : decode cX9_takeOn 87 = .ok (.iload 4, 2) := by decide +kernel
theorem dX9_takeOn_89 : decode cX9_takeOn 89 = .ok (.iload 6, 2) := by decide +kernel
theorem dX9_takeOn_91 : decode cX9_takeOn 91 = .ok (.iload_n 3, 1) := by decide +kernel
theorem dX9_takeOn_92 : decode cX9_takeOn 92 = .ok (.invokestatic 107, 3) := by decide +kernel
theorem dX9_takeOn_95 : decode cX9_takeOn 95 = .ok (.istore 8, 2) := by decide +kernel
theorem dX9_takeOn_97 : decode cX9_takeOn 97 = .ok (.aload_n 0, 1) := by decide +kernel
theorem dX9_takeOn_98 : decode cX9_takeOn 98 = .ok (.iload 7, 2) := by decide +kernel
theorem dX9_takeOn_100 : decode cX9_takeOn 100 = .ok (.iaload, 1) := by decide +kernel
theorem dX9_takeOn_101 : decode cX9_takeOn 101 = .ok (.ifCond .le 14, 3) := by decide +kernel
theorem dX9_takeOn_104 : decode cX9_takeOn 104 = .ok (.aload_n 0, 1) := by decide +kernel
theorem dX9_takeOn_105 : decode cX9_takeOn 105 = .ok (.iload 7, 2) := by decide +kernel
theorem dX9_takeOn_107 : decode cX9_takeOn 107 = .ok (.dup2, 1) := by decide +kernel
theorem dX9_takeOn_108 : decode cX9_takeOn 108 = .ok (.iaload, 1) := by decide +kernel
theorem dX9_takeOn_109 : decode cX9_takeOn 109 = .ok (.iconst 1, 1) := by decide +kernel
theorem dX9_takeOn_110 : decode cX9_takeOn 110 = .ok (.isub, 1) := by decide +kernel
theorem dX9_takeOn_111 : decode cX9_takeOn 111 = .ok (.iastore, 1) := by decide +kernel
theorem dX9_takeOn_112 : decode cX9_takeOn 112 = .ok (.goto 11, 3) := by decide +kernel
theorem dX9_takeOn_115 : decode cX9_takeOn 115 = .ok (.aload_n 0, 1) := by decide +kernel
theorem dX9_takeOn_116 : decode cX9_takeOn 116 = .ok (.iload 8, 2) := by decide +kernel
theorem dX9_takeOn_118 : decode cX9_takeOn 118 = .ok (.dup2, 1) := by decide +kernel
theorem dX9_takeOn_119 : decode cX9_takeOn 119 = .ok (.iaload, 1) := by decide +kernel
theorem dX9_takeOn_120 : decode cX9_takeOn 120 = .ok (.iconst 1, 1) := by decide +kernel
theorem dX9_takeOn_121 : decode cX9_takeOn 121 = .ok (.iadd, 1) := by decide +kernel
theorem dX9_takeOn_122 : decode cX9_takeOn 122 = .ok (.iastore, 1) := by decide +kernel
theorem dX9_takeOn_123 : decode cX9_takeOn 123 = .ok (.aload_n 0, 1) := by decide +kernel
theorem dX9_takeOn_124 : decode cX9_takeOn 124 = .ok (.iload 8, 2) := by decide +kernel
theorem dX9_takeOn_126 : decode cX9_takeOn 126 = .ok (.iaload, 1) := by decide +kernel
theorem dX9_takeOn_127 : decode cX9_takeOn 127 = .ok (.ireturn, 1) := by decide +kernel
set_option maxRecDepth 20000 in
theorem ggX9_whyNotSettle_X9_isHolder : GoodIn wsX9_whyNotSettle wsX9_isHolder := goodIn_r _ [4, 5, 6, 7, 3, 8] (by decide +kernel) (by decide +kernel)
set_option maxRecDepth 20000 in
theorem gX9_whyNotSettle_X9_isHolder : GoodIn wsX9_whyNotSettle (va_wsS RX9 60 yX9_isHolder wsX9_isHolder) := goodIn_app (goodIn_of _ (by decide +kernel)) ggX9_whyNotSettle_X9_isHolder
set_option maxRecDepth 20000 in
theorem ggX9_whyNotSettle_X9_isKind : GoodIn wsX9_whyNotSettle wsX9_isKind := goodIn_r _ [11, 12, 6, 7, 3, 8] (by decide +kernel) (by decide +kernel)
set_option maxRecDepth 20000 in
theorem gX9_whyNotSettle_X9_isKind : GoodIn wsX9_whyNotSettle (va_wsS RX9 56 yX9_isKind wsX9_isKind) := goodIn_app (goodIn_of _ (by decide +kernel)) ggX9_whyNotSettle_X9_isKind
set_option maxRecDepth 20000 in
theorem ggX9_whyNotSettle_X9_isPart : GoodIn wsX9_whyNotSettle wsX9_isPart := goodIn_r _ [15, 12, 6, 7, 3, 8] (by decide +kernel) (by decide +kernel)
set_option maxRecDepth 20000 in
theorem gX9_whyNotSettle_X9_isPart : GoodIn wsX9_whyNotSettle (va_wsS RX9 104 yX9_isPart wsX9_isPart) := goodIn_app (goodIn_of _ (by decide +kernel)) ggX9_whyNotSettle_X9_isPart
set_option maxRecDepth 20000 in
theorem ggX9_whyNotSettle_X9_owedAt : GoodIn wsX9_whyNotSettle wsX9_owedAt := goodIn_r _ [18] (by decide +kernel) (by decide +kernel)
set_option maxRecDepth 20000 in
theorem gX9_whyNotSettle_X9_owedAt : GoodIn wsX9_whyNotSettle (va_wsS RX9 107 yX9_owedAt wsX9_owedAt) := goodIn_app (goodIn_of _ (by decide +kernel)) ggX9_whyNotSettle_X9_owedAt
theorem dX9_whyNotSettle_0 : decode cX9_whyNotSettle 0 = .ok (.iload_n 1, 1) := by decide +kernel
theorem dX9_whyNotSettle_1 : decode cX9_whyNotSettle 1 = .ok (.invokestatic 60, 3) := by decide +kernel
theorem dX9_whyNotSettle_4 : decode cX9_whyNotSettle 4 = .ok (.ifCond .eq 25, 3) := by decide +kernel
theorem dX9_whyNotSettle_7 : decode cX9_whyNotSettle 7 = .ok (.iload_n 2, 1) := by decide +kernel
theorem dX9_whyNotSettle_8 : decode cX9_whyNotSettle 8 = .ok (.invokestatic 60, 3) := by decide +kernel
theorem dX9_whyNotSettle_11 : decode cX9_whyNotSettle 11 = .ok (.ifCond .eq 18, 3) := by decide +kernel
theorem dX9_whyNotSettle_14 : decode cX9_whyNotSettle 14 = .ok (.iload_n 3, 1) := by decide +kernel
theorem dX9_whyNotSettle_15 : decode cX9_whyNotSettle 15 = .ok (.invokestatic 56, 3) := by decide +kernel
theorem dX9_whyNotSettle_18 : decode cX9_whyNotSettle 18 = .ok (.ifCond .eq 11, 3) := by decide +kernel
theorem dX9_whyNotSettle_21 : decode cX9_whyNotSettle 21 = .ok (.iload 4, 2) := by decide +kernel
theorem dX9_whyNotSettle_23 : decode cX9_whyNotSettle 23 = .ok (.invokestatic 104, 3) := by decide +kernel
theorem dX9_whyNotSettle_26 : decode cX9_whyNotSettle 26 = .ok (.ifCond .ne 7, 3) := by decide +kernel
theorem dX9_whyNotSettle_29 : decode cX9_whyNotSettle 29 = .ok (.iconst 1, 1) := by decide +kernel
theorem dX9_whyNotSettle_30 : decode cX9_whyNotSettle 30 = .ok (.goto 21, 3) := by decide +kernel
theorem dX9_whyNotSettle_33 : decode cX9_whyNotSettle 33 = .ok (.aload_n 0, 1) := by decide +kernel
theorem dX9_whyNotSettle_34 : decode cX9_whyNotSettle 34 = .ok (.iload_n 1, 1) := by decide +kernel
theorem dX9_whyNotSettle_35 : decode cX9_whyNotSettle 35 = .ok (.iload_n 2, 1) := by decide +kernel
theorem dX9_whyNotSettle_36 : decode cX9_whyNotSettle 36 = .ok (.iload_n 3, 1) := by decide +kernel
theorem dX9_whyNotSettle_37 : decode cX9_whyNotSettle 37 = .ok (.iload 4, 2) := by decide +kernel
theorem dX9_whyNotSettle_39 : decode cX9_whyNotSettle 39 = .ok (.invokestatic 107, 3) := by decide +kernel
theorem dX9_whyNotSettle_42 : decode cX9_whyNotSettle 42 = .ok (.iaload, 1) := by decide +kernel
theorem dX9_whyNotSettle_43 : decode cX9_whyNotSettle 43 = .ok (.ifCond .ne 7, 3) := by decide +kernel
theorem dX9_whyNotSettle_46 : decode cX9_whyNotSettle 46 = .ok (.iconst 2, 1) := by decide +kernel
theorem dX9_whyNotSettle_47 : decode cX9_whyNotSettle 47 = .ok (.goto 4, 3) := by decide +kernel
theorem dX9_whyNotSettle_50 : decode cX9_whyNotSettle 50 = .ok (.iconst 0, 1) := by decide +kernel
theorem dX9_whyNotSettle_51 : decode cX9_whyNotSettle 51 = .ok (.ireturn, 1) := by decide +kernel
set_option maxRecDepth 20000 in
theorem ggX9_settleOn_X9_owedAt : GoodIn wsX9_settleOn wsX9_owedAt := goodIn_r _ [4] (by decide +kernel) (by decide +kernel)
set_option maxRecDepth 20000 in
theorem gX9_settleOn_X9_owedAt : GoodIn wsX9_settleOn (va_wsS RX9 107 yX9_owedAt wsX9_owedAt) := goodIn_app (goodIn_of _ (by decide +kernel)) ggX9_settleOn_X9_owedAt
set_option maxRecDepth 20000 in
theorem ggX9_settleOn_X9_pays : GoodIn wsX9_settleOn wsX9_pays := goodIn_r _ [7] (by decide +kernel) (by decide +kernel)
set_option maxRecDepth 20000 in
theorem gX9_settleOn_X9_pays : GoodIn wsX9_settleOn (va_wsS RX9 77 yX9_pays wsX9_pays) := goodIn_app (goodIn_of _ (by decide +kernel)) ggX9_settleOn_X9_pays
theorem dX9_settleOn_0 : decode cX9_settleOn 0 = .ok (.iload_n 1, 1) := by decide +kernel
theorem dX9_settleOn_1 : decode cX9_settleOn 1 = .ok (.iload_n 2, 1) := by decide +kernel
theorem dX9_settleOn_2 : decode cX9_settleOn 2 = .ok (.iload_n 3, 1) := by decide +kernel
theorem dX9_settleOn_3 : decode cX9_settleOn 3 = .ok (.iload 4, 2) := by decide +kernel
theorem dX9_settleOn_5 : decode cX9_settleOn 5 = .ok (.invokestatic 107, 3) := by decide +kernel
theorem dX9_settleOn_8 : decode cX9_settleOn 8 = .ok (.istore 5, 2) := by decide +kernel
theorem dX9_settleOn_10 : decode cX9_settleOn 10 = .ok (.aload_n 0, 1) := by decide +kernel
theorem dX9_settleOn_11 : decode cX9_settleOn 11 = .ok (.iload 5, 2) := by decide +kernel
theorem dX9_settleOn_13 : decode cX9_settleOn 13 = .ok (.dup2, 1) := by decide +kernel
theorem dX9_settleOn_14 : decode cX9_settleOn 14 = .ok (.iaload, 1) := by decide +kernel
theorem dX9_settleOn_15 : decode cX9_settleOn 15 = .ok (.iconst 1, 1) := by decide +kernel
theorem dX9_settleOn_16 : decode cX9_settleOn 16 = .ok (.isub, 1) := by decide +kernel
theorem dX9_settleOn_17 : decode cX9_settleOn 17 = .ok (.iastore, 1) := by decide +kernel
theorem dX9_settleOn_18 : decode cX9_settleOn 18 = .ok (.aload_n 0, 1) := by decide +kernel
theorem dX9_settleOn_19 : decode cX9_settleOn 19 = .ok (.iload_n 1, 1) := by decide +kernel
theorem dX9_settleOn_20 : decode cX9_settleOn 20 = .ok (.iload_n 2, 1) := by decide +kernel
theorem dX9_settleOn_21 : decode cX9_settleOn 21 = .ok (.aload_n 0, 1) := by decide +kernel
theorem dX9_settleOn_22 : decode cX9_settleOn 22 = .ok (.iconst 4, 1) := by decide +kernel
theorem dX9_settleOn_23 : decode cX9_settleOn 23 = .ok (.iaload, 1) := by decide +kernel
theorem dX9_settleOn_24 : decode cX9_settleOn 24 = .ok (.invokestatic 77, 3) := by decide +kernel
theorem dX9_settleOn_27 : decode cX9_settleOn 27 = .ok (.aload_n 0, 1) := by decide +kernel
theorem dX9_settleOn_28 : decode cX9_settleOn 28 = .ok (.iload 5, 2) := by decide +kernel
theorem dX9_settleOn_30 : decode cX9_settleOn 30 = .ok (.iaload, 1) := by decide +kernel
theorem dX9_settleOn_31 : decode cX9_settleOn 31 = .ok (.ireturn, 1) := by decide +kernel
set_option maxRecDepth 20000 in
theorem ggX9_whyNotBuy_X9_isUnit : GoodIn wsX9_whyNotBuy wsX9_isUnit := goodIn_r _ [4, 5, 6, 3, 7] (by decide +kernel) (by decide +kernel)
set_option maxRecDepth 20000 in
theorem gX9_whyNotBuy_X9_isUnit : GoodIn wsX9_whyNotBuy (va_wsS RX9 69 yX9_isUnit wsX9_isUnit) := goodIn_app (goodIn_of _ (by decide +kernel)) ggX9_whyNotBuy_X9_isUnit
set_option maxRecDepth 20000 in
theorem ggX9_whyNotBuy_X9_isPart : GoodIn wsX9_whyNotBuy wsX9_isPart := goodIn_r _ [10, 11, 5, 6, 3, 7] (by decide +kernel) (by decide +kernel)
set_option maxRecDepth 20000 in
theorem gX9_whyNotBuy_X9_isPart : GoodIn wsX9_whyNotBuy (va_wsS RX9 104 yX9_isPart wsX9_isPart) := goodIn_app (goodIn_of _ (by decide +kernel)) ggX9_whyNotBuy_X9_isPart
set_option maxRecDepth 20000 in
theorem ggX9_whyNotBuy_X9_of : GoodIn wsX9_whyNotBuy wsX9_of := goodIn_r _ [14] (by decide +kernel) (by decide +kernel)
set_option maxRecDepth 20000 in
theorem gX9_whyNotBuy_X9_of : GoodIn wsX9_whyNotBuy (va_wsS RX9 45 yX9_of wsX9_of) := goodIn_app (goodIn_of _ (by decide +kernel)) ggX9_whyNotBuy_X9_of
theorem dX9_whyNotBuy_0 : decode cX9_whyNotBuy 0 = .ok (.aload_n 0, 1) := by decide +kernel
theorem dX9_whyNotBuy_1 : decode cX9_whyNotBuy 1 = .ok (.iload_n 1, 1) := by decide +kernel
theorem dX9_whyNotBuy_2 : decode cX9_whyNotBuy 2 = .ok (.invokestatic 69, 3) := by decide +kernel
theorem dX9_whyNotBuy_5 : decode cX9_whyNotBuy 5 = .ok (.ifCond .eq 10, 3) := by decide +kernel
theorem dX9_whyNotBuy_8 : decode cX9_whyNotBuy 8 = .ok (.iload_n 2, 1) := by decide +kernel
theorem dX9_whyNotBuy_9 : decode cX9_whyNotBuy 9 = .ok (.invokestatic 104, 3) := by decide +kernel
theorem dX9_whyNotBuy_12 : decode cX9_whyNotBuy 12 = .ok (.ifCond .ne 7, 3) := by decide +kernel
theorem dX9_whyNotBuy_15 : decode cX9_whyNotBuy 15 = .ok (.iconst 1, 1) := by decide +kernel
theorem dX9_whyNotBuy_16 : decode cX9_whyNotBuy 16 = .ok (.goto 22, 3) := by decide +kernel
theorem dX9_whyNotBuy_19 : decode cX9_whyNotBuy 19 = .ok (.aload_n 0, 1) := by decide +kernel
theorem dX9_whyNotBuy_20 : decode cX9_whyNotBuy 20 = .ok (.iload_n 1, 1) := by decide +kernel
theorem dX9_whyNotBuy_21 : decode cX9_whyNotBuy 21 = .ok (.iconst 3, 1) := by decide +kernel
theorem dX9_whyNotBuy_22 : decode cX9_whyNotBuy 22 = .ok (.invokestatic 45, 3) := by decide +kernel
theorem dX9_whyNotBuy_25 : decode cX9_whyNotBuy 25 = .ok (.iload_n 2, 1) := by decide +kernel
theorem dX9_whyNotBuy_26 : decode cX9_whyNotBuy 26 = .ok (.ishr, 1) := by decide +kernel
theorem dX9_whyNotBuy_27 : decode cX9_whyNotBuy 27 = .ok (.iconst 1, 1) := by decide +kernel
theorem dX9_whyNotBuy_28 : decode cX9_whyNotBuy 28 = .ok (.iand, 1) := by decide +kernel
theorem dX9_whyNotBuy_29 : decode cX9_whyNotBuy 29 = .ok (.iconst 1, 1) := by decide +kernel
theorem dX9_whyNotBuy_30 : decode cX9_whyNotBuy 30 = .ok (.if_icmp .ne 7, 3) := by decide +kernel
theorem dX9_whyNotBuy_33 : decode cX9_whyNotBuy 33 = .ok (.iconst 2, 1) := by decide +kernel
theorem dX9_whyNotBuy_34 : decode cX9_whyNotBuy 34 = .ok (.goto 4, 3) := by decide +kernel
theorem dX9_whyNotBuy_37 : decode cX9_whyNotBuy 37 = .ok (.iconst 0, 1) := by decide +kernel
theorem dX9_whyNotBuy_38 : decode cX9_whyNotBuy 38 = .ok (.ireturn, 1) := by decide +kernel
set_option maxRecDepth 20000 in
theorem ggX9_buyOn_X9_of : GoodIn wsX9_buyOn wsX9_of := goodIn_r _ [4] (by decide +kernel) (by decide +kernel)
set_option maxRecDepth 20000 in
theorem gX9_buyOn_X9_of : GoodIn wsX9_buyOn (va_wsS RX9 45 yX9_of wsX9_of) := goodIn_app (goodIn_of _ (by decide +kernel)) ggX9_buyOn_X9_of
set_option maxRecDepth 20000 in
theorem ggX9_buyOn_X9_lay : GoodIn wsX9_buyOn wsX9_lay := goodIn_r _ [7] (by decide +kernel) (by decide +kernel)
set_option maxRecDepth 20000 in
theorem gX9_buyOn_X9_lay : GoodIn wsX9_buyOn (va_wsS RX9 65 yX9_lay wsX9_lay) := goodIn_app (goodIn_of _ (by decide +kernel)) ggX9_buyOn_X9_lay
theorem dX9_buyOn_0 : decode cX9_buyOn 0 = .ok (.aload_n 0, 1) := by decide +kernel
theorem dX9_buyOn_1 : decode cX9_buyOn 1 = .ok (.iload_n 1, 1) := by decide +kernel
theorem dX9_buyOn_2 : decode cX9_buyOn 2 = .ok (.iconst 3, 1) := by decide +kernel
theorem dX9_buyOn_3 : decode cX9_buyOn 3 = .ok (.aload_n 0, 1) := by decide +kernel
theorem dX9_buyOn_4 : decode cX9_buyOn 4 = .ok (.iload_n 1, 1) := by decide +kernel
theorem dX9_buyOn_5 : decode cX9_buyOn 5 = .ok (.iconst 3, 1) := by decide +kernel
theorem dX9_buyOn_6 : decode cX9_buyOn 6 = .ok (.invokestatic 45, 3) := by decide +kernel
theorem dX9_buyOn_9 : decode cX9_buyOn 9 = .ok (.iconst 1, 1) := by decide +kernel
theorem dX9_buyOn_10 : decode cX9_buyOn 10 = .ok (.iload_n 2, 1) := by decide +kernel
theorem dX9_buyOn_11 : decode cX9_buyOn 11 = .ok (.ishl, 1) := by decide +kernel
theorem dX9_buyOn_12 : decode cX9_buyOn 12 = .ok (.ior, 1) := by decide +kernel
theorem dX9_buyOn_13 : decode cX9_buyOn 13 = .ok (.invokestatic 65, 3) := by decide +kernel
theorem dX9_buyOn_16 : decode cX9_buyOn 16 = .ok (.aload_n 0, 1) := by decide +kernel
theorem dX9_buyOn_17 : decode cX9_buyOn 17 = .ok (.bipush 88, 2) := by decide +kernel
theorem dX9_buyOn_19 : decode cX9_buyOn 19 = .ok (.aload_n 0, 1) := by decide +kernel
theorem dX9_buyOn_20 : decode cX9_buyOn 20 = .ok (.iload_n 1, 1) := by decide +kernel
theorem dX9_buyOn_21 : decode cX9_buyOn 21 = .ok (.iconst 1, 1) := by decide +kernel
theorem dX9_buyOn_22 : decode cX9_buyOn 22 = .ok (.invokestatic 45, 3) := by decide +kernel
theorem dX9_buyOn_25 : decode cX9_buyOn 25 = .ok (.iadd, 1) := by decide +kernel
theorem dX9_buyOn_26 : decode cX9_buyOn 26 = .ok (.dup2, 1) := by decide +kernel
theorem dX9_buyOn_27 : decode cX9_buyOn 27 = .ok (.iaload, 1) := by decide +kernel
theorem dX9_buyOn_28 : decode cX9_buyOn 28 = .ok (.aload_n 0, 1) := by decide +kernel
theorem dX9_buyOn_29 : decode cX9_buyOn 29 = .ok (.iconst 4, 1) := by decide +kernel
theorem dX9_buyOn_30 : decode cX9_buyOn 30 = .ok (.iaload, 1) := by decide +kernel
theorem dX9_buyOn_31 : decode cX9_buyOn 31 = .ok (.isub, 1) := by decide +kernel
theorem dX9_buyOn_32 : decode cX9_buyOn 32 = .ok (.iastore, 1) := by decide +kernel
theorem dX9_buyOn_33 : decode cX9_buyOn 33 = .ok (.aload_n 0, 1) := by decide +kernel
theorem dX9_buyOn_34 : decode cX9_buyOn 34 = .ok (.iconst 5, 1) := by decide +kernel
theorem dX9_buyOn_35 : decode cX9_buyOn 35 = .ok (.dup2, 1) := by decide +kernel
theorem dX9_buyOn_36 : decode cX9_buyOn 36 = .ok (.iaload, 1) := by decide +kernel
theorem dX9_buyOn_37 : decode cX9_buyOn 37 = .ok (.aload_n 0, 1) := by decide +kernel
theorem dX9_buyOn_38 : decode cX9_buyOn 38 = .ok (.iconst 4, 1) := by decide +kernel
theorem dX9_buyOn_39 : decode cX9_buyOn 39 = .ok (.iaload, 1) := by decide +kernel
theorem dX9_buyOn_40 : decode cX9_buyOn 40 = .ok (.iadd, 1) := by decide +kernel
theorem dX9_buyOn_41 : decode cX9_buyOn 41 = .ok (.iastore, 1) := by decide +kernel
theorem dX9_buyOn_42 : decode cX9_buyOn 42 = .ok (.aload_n 0, 1) := by decide +kernel
theorem dX9_buyOn_43 : decode cX9_buyOn 43 = .ok (.iload_n 1, 1) := by decide +kernel
theorem dX9_buyOn_44 : decode cX9_buyOn 44 = .ok (.iconst 3, 1) := by decide +kernel
theorem dX9_buyOn_45 : decode cX9_buyOn 45 = .ok (.invokestatic 45, 3) := by decide +kernel
theorem dX9_buyOn_48 : decode cX9_buyOn 48 = .ok (.ireturn, 1) := by decide +kernel
theorem dX9_daysOn_0 : decode cX9_daysOn 0 = .ok (.aload_n 0, 1) := by decide +kernel
theorem dX9_daysOn_1 : decode cX9_daysOn 1 = .ok (.iconst 0, 1) := by decide +kernel
theorem dX9_daysOn_2 : decode cX9_daysOn 2 = .ok (.dup2, 1) := by decide +kernel
theorem dX9_daysOn_3 : decode cX9_daysOn 3 = .ok (.iaload, 1) := by decide +kernel
theorem dX9_daysOn_4 : decode cX9_daysOn 4 = .ok (.iload_n 1, 1) := by decide +kernel
theorem dX9_daysOn_5 : decode cX9_daysOn 5 = .ok (.iadd, 1) := by decide +kernel
theorem dX9_daysOn_6 : decode cX9_daysOn 6 = .ok (.iastore, 1) := by decide +kernel
theorem dX9_daysOn_7 : decode cX9_daysOn 7 = .ok (.aload_n 0, 1) := by decide +kernel
theorem dX9_daysOn_8 : decode cX9_daysOn 8 = .ok (.iconst 0, 1) := by decide +kernel
theorem dX9_daysOn_9 : decode cX9_daysOn 9 = .ok (.iaload, 1) := by decide +kernel
theorem dX9_daysOn_10 : decode cX9_daysOn 10 = .ok (.ireturn, 1) := by decide +kernel
set_option maxRecDepth 20000 in
theorem ggX9_append_X9_in : GoodIn wsX9_append wsX9_in := goodIn_r _ [7] (by decide +kernel) (by decide +kernel)
set_option maxRecDepth 20000 in
theorem gX9_append_X9_in : GoodIn wsX9_append (va_wsS RX9 37 yX9_in wsX9_in) := goodIn_app (goodIn_of _ (by decide +kernel)) ggX9_append_X9_in
set_option maxRecDepth 20000 in
theorem ggX9_append_X9_refused : GoodIn wsX9_append wsX9_refused := goodIn_r _ [11, 12, 13, 14, 15, 16, 17, 18, 19, 20, 21, 22, 23] (by decide +kernel) (by decide +kernel)
set_option maxRecDepth 20000 in
theorem gX9_append_X9_refused : GoodIn wsX9_append (wsV RX9 116 RX9 yX9_refused wsX9_refused) := goodIn_app (goodIn_of _ (by decide +kernel)) ggX9_append_X9_refused
theorem dX9_append_0 : decode cX9_append 0 = .ok (.aload_n 0, 1) := by decide +kernel
theorem dX9_append_1 : decode cX9_append 1 = .ok (.iload_n 1, 1) := by decide +kernel
theorem dX9_append_2 : decode cX9_append 2 = .ok (.i2l, 1) := by decide +kernel
theorem dX9_append_3 : decode cX9_append 3 = .ok (.lconst 0, 1) := by decide +kernel
theorem dX9_append_4 : decode cX9_append 4 = .ok (.ldc2_w 111, 3) := by decide +kernel
theorem dX9_append_7 : decode cX9_append 7 = .ok (.invokestatic 37, 3) := by decide +kernel
theorem dX9_append_10 : decode cX9_append 10 = .ok (.ifCond .ne 7, 3) := by decide +kernel
theorem dX9_append_13 : decode cX9_append 13 = .ok (.iconst 1, 1) := by decide +kernel
theorem dX9_append_14 : decode cX9_append 14 = .ok (.goto 17, 3) := by decide +kernel
theorem dX9_append_17 : decode cX9_append 17 = .ok (.aload_n 0, 1) := by decide +kernel
theorem dX9_append_18 : decode cX9_append 18 = .ok (.getfield 113, 3) := by decide +kernel
theorem dX9_append_21 : decode cX9_append 21 = .ok (.bipush 120, 2) := by decide +kernel
theorem dX9_append_23 : decode cX9_append 23 = .ok (.if_icmp .ne 7, 3) := by decide +kernel
theorem dX9_append_26 : decode cX9_append 26 = .ok (.iconst 2, 1) := by decide +kernel
theorem dX9_append_27 : decode cX9_append 27 = .ok (.goto 4, 3) := by decide +kernel
theorem dX9_append_30 : decode cX9_append 30 = .ok (.iconst 0, 1) := by decide +kernel
theorem dX9_append_31 : decode cX9_append 31 = .ok (.invokevirtual 116, 3) := by decide +kernel
theorem dX9_append_34 : decode cX9_append 34 = .ok (.ifCond .eq 5, 3) := by decide +kernel
theorem dX9_append_37 : decode cX9_append 37 = .ok (.iconst 0, 1) := by decide +kernel
theorem dX9_append_38 : decode cX9_append 38 = .ok (.ireturn, 1) := by decide +kernel
theorem dX9_append_39 : decode cX9_append 39 = .ok (.aload_n 0, 1) := by decide +kernel
theorem dX9_append_40 : decode cX9_append 40 = .ok (.getfield 7, 3) := by decide +kernel
theorem dX9_append_43 : decode cX9_append 43 = .ok (.aload_n 0, 1) := by decide +kernel
theorem dX9_append_44 : decode cX9_append 44 = .ok (.getfield 113, 3) := by decide +kernel
theorem dX9_append_47 : decode cX9_append 47 = .ok (.iload_n 1, 1) := by decide +kernel
theorem dX9_append_48 : decode cX9_append 48 = .ok (.iastore, 1) := by decide +kernel
theorem dX9_append_49 : decode cX9_append 49 = .ok (.aload_n 0, 1) := by decide +kernel
theorem dX9_append_50 : decode cX9_append 50 = .ok (.dup, 1) := by decide +kernel
theorem dX9_append_51 : decode cX9_append 51 = .ok (.getfield 113, 3) := by decide +kernel
theorem dX9_append_54 : decode cX9_append 54 = .ok (.iconst 1, 1) := by decide +kernel
theorem dX9_append_55 : decode cX9_append 55 = .ok (.iadd, 1) := by decide +kernel
theorem dX9_append_56 : decode cX9_append 56 = .ok (.putfield 113, 3) := by decide +kernel
theorem dX9_append_59 : decode cX9_append 59 = .ok (.aload_n 0, 1) := by decide +kernel
theorem dX9_append_60 : decode cX9_append 60 = .ok (.getfield 113, 3) := by decide +kernel
theorem dX9_append_63 : decode cX9_append 63 = .ok (.ireturn, 1) := by decide +kernel
theorem dX9_clearText_0 : decode cX9_clearText 0 = .ok (.aload_n 0, 1) := by decide +kernel
theorem dX9_clearText_1 : decode cX9_clearText 1 = .ok (.iconst 0, 1) := by decide +kernel
theorem dX9_clearText_2 : decode cX9_clearText 2 = .ok (.putfield 33, 3) := by decide +kernel
theorem dX9_clearText_5 : decode cX9_clearText 5 = .ok (.aload_n 0, 1) := by decide +kernel
theorem dX9_clearText_6 : decode cX9_clearText 6 = .ok (.getfield 113, 3) := by decide +kernel
theorem dX9_clearText_9 : decode cX9_clearText 9 = .ok (.istore_n 1, 1) := by decide +kernel
theorem dX9_clearText_10 : decode cX9_clearText 10 = .ok (.aload_n 0, 1) := by decide +kernel
theorem dX9_clearText_11 : decode cX9_clearText 11 = .ok (.iconst 0, 1) := by decide +kernel
theorem dX9_clearText_12 : decode cX9_clearText 12 = .ok (.putfield 113, 3) := by decide +kernel
theorem dX9_clearText_15 : decode cX9_clearText 15 = .ok (.iload_n 1, 1) := by decide +kernel
theorem dX9_clearText_16 : decode cX9_clearText 16 = .ok (.ireturn, 1) := by decide +kernel
set_option maxRecDepth 20000 in
theorem ggX9_number_X9_in : GoodIn wsX9_number wsX9_in := goodIn_r _ [8] (by decide +kernel) (by decide +kernel)
set_option maxRecDepth 20000 in
theorem gX9_number_X9_in : GoodIn wsX9_number (va_wsS RX9 37 yX9_in wsX9_in) := goodIn_app (goodIn_of _ (by decide +kernel)) ggX9_number_X9_in
theorem dX9_number_0 : decode cX9_number 0 = .ok (.iconst 0, 1) := by decide +kernel
theorem dX9_number_1 : decode cX9_number 1 = .ok (.istore 4, 2) := by decide +kernel
theorem dX9_number_3 : decode cX9_number 3 = .ok (.iload_n 1, 1) := by decide +kernel
theorem dX9_number_4 : decode cX9_number 4 = .ok (.iconst 2, 1) := by decide +kernel
theorem dX9_number_5 : decode cX9_number 5 = .ok (.if_icmp .ne 8, 3) := by decide +kernel
theorem dX9_number_8 : decode cX9_number 8 = .ok (.bipush 10, 2) := by decide +kernel
theorem dX9_number_10 : decode cX9_number 10 = .ok (.goto 4, 3) := by decide +kernel
theorem dX9_number_13 : decode cX9_number 13 = .ok (.iconst 1, 1) := by decide +kernel
theorem dX9_number_14 : decode cX9_number 14 = .ok (.istore 5, 2) := by decide +kernel
theorem dX9_number_16 : decode cX9_number 16 = .ok (.iload 5, 2) := by decide +kernel
theorem dX9_number_18 : decode cX9_number 18 = .ok (.ifCond .le 98, 3) := by decide +kernel
theorem dX9_number_21 : decode cX9_number 21 = .ok (.aload_n 0, 1) := by decide +kernel
theorem dX9_number_22 : decode cX9_number 22 = .ok (.getfield 119, 3) := by decide +kernel
theorem dX9_number_25 : decode cX9_number 25 = .ok (.aload_n 0, 1) := by decide +kernel
theorem dX9_number_26 : decode cX9_number 26 = .ok (.getfield 113, 3) := by decide +kernel
theorem dX9_number_29 : decode cX9_number 29 = .ok (.if_icmp .ge 18, 3) := by decide +kernel
theorem dX9_number_32 : decode cX9_number 32 = .ok (.aload_n 0, 1) := by decide +kernel
theorem dX9_number_33 : decode cX9_number 33 = .ok (.getfield 7, 3) := by decide +kernel
theorem dX9_number_36 : decode cX9_number 36 = .ok (.aload_n 0, 1) := by decide +kernel
theorem dX9_number_37 : decode cX9_number 37 = .ok (.getfield 119, 3) := by decide +kernel
theorem dX9_number_40 : decode cX9_number 40 = .ok (.iaload, 1) := by decide +kernel
theorem dX9_number_41 : decode cX9_number 41 = .ok (.bipush 48, 2) := by decide +kernel
theorem dX9_number_43 : decode cX9_number 43 = .ok (.isub, 1) := by decide +kernel
theorem dX9_number_44 : decode cX9_number 44 = .ok (.goto 4, 3) := by decide +kernel
theorem dX9_number_47 : decode cX9_number 47 = .ok (.iconst (-1), 1) := by decide +kernel
theorem dX9_number_48 : decode cX9_number 48 = .ok (.istore 6, 2) := by decide +kernel
theorem dX9_number_50 : decode cX9_number 50 = .ok (.iload 4, 2) := by decide +kernel
theorem dX9_number_52 : decode cX9_number 52 = .ok (.iload 6, 2) := by decide +kernel
theorem dX9_number_54 : decode cX9_number 54 = .ok (.iload 5, 2) := by decide +kernel
theorem dX9_number_56 : decode cX9_number 56 = .ok (.imul, 1) := by decide +kernel
theorem dX9_number_57 : decode cX9_number 57 = .ok (.iadd, 1) := by decide +kernel
theorem dX9_number_58 : decode cX9_number 58 = .ok (.istore 7, 2) := by decide +kernel
theorem dX9_number_60 : decode cX9_number 60 = .ok (.iload 6, 2) := by decide +kernel
theorem dX9_number_62 : decode cX9_number 62 = .ok (.i2l, 1) := by decide +kernel
theorem dX9_number_63 : decode cX9_number 63 = .ok (.lconst 0, 1) := by decide +kernel
theorem dX9_number_64 : decode cX9_number 64 = .ok (.ldc2_w 122, 3) := by decide +kernel
theorem dX9_number_67 : decode cX9_number 67 = .ok (.invokestatic 37, 3) := by decide +kernel
theorem dX9_number_70 : decode cX9_number 70 = .ok (.ifCond .eq 20, 3) := by decide +kernel
theorem dX9_number_73 : decode cX9_number 73 = .ok (.iload 7, 2) := by decide +kernel
theorem dX9_number_75 : decode cX9_number 75 = .ok (.iload_n 3, 1) := by decide +kernel
theorem dX9_number_76 : decode cX9_number 76 = .ok (.if_icmp .gt 14, 3) := by decide +kernel
theorem dX9_number_79 : decode cX9_number 79 = .ok (.iload 7, 2) := by decide +kernel
theorem dX9_number_81 : decode cX9_number 81 = .ok (.iload 5, 2) := by decide +kernel
theorem dX9_number_83 : decode cX9_number 83 = .ok (.iadd, 1) := by decide +kernel
theorem dX9_number_84 : decode cX9_number 84 = .ok (.iconst 1, 1) := by decide +kernel
theorem dX9_number_85 : decode cX9_number 85 = .ok (.isub, 1) := by decide +kernel
theorem dX9_number_86 : decode cX9_number 86 = .ok (.iload_n 2, 1) := by decide +kernel
theorem dX9_number_87 : decode cX9_number 87 = .ok (.if_icmp .ge 5, 3) := by decide +kernel
theorem dX9_number_90 : decode cX9_number 90 = .ok (.iconst (-1), 1) := by decide +kernel
theorem dX9_number_91 : decode cX9_number 91 = .ok (.ireturn, 1) := by decide +kernel
theorem dX9_number_92 : decode cX9_number 92 = .ok (.iload 7, 2) := by decide +kernel
theorem dX9_number_94 : decode cX9_number 94 = .ok (.istore 4, 2) := by decide +kernel
theorem dX9_number_96 : decode cX9_number 96 = .ok (.aload_n 0, 1) := by decide +kernel
theorem dX9_number_97 : decode cX9_number 97 = .ok (.dup, 1) := by decide +kernel
theorem dX9_number_98 : decode cX9_number 98 = .ok (.getfield 119, 3) := by decide +kernel
theorem dX9_number_101 : decode cX9_number 101 = .ok (.iconst 1, 1) := by decide +kernel
theorem dX9_number_102 : decode cX9_number 102 = .ok (.iadd, 1) := by decide +kernel
theorem dX9_number_103 : decode cX9_number 103 = .ok (.putfield 119, 3) := by decide +kernel
theorem dX9_number_106 : decode cX9_number 106 = .ok (.iload 5, 2) := by decide +kernel
theorem dX9_number_108 : decode cX9_number 108 = .ok (.bipush 10, 2) := by decide +kernel
theorem dX9_number_110 : decode cX9_number 110 = .ok (.idiv, 1) := by decide +kernel
theorem dX9_number_111 : decode cX9_number 111 = .ok (.istore 5, 2) := by decide +kernel
theorem dX9_number_113 : decode cX9_number 113 = .ok (.goto (-97), 3) := by decide +kernel
theorem dX9_number_116 : decode cX9_number 116 = .ok (.iload 4, 2) := by decide +kernel
theorem dX9_number_118 : decode cX9_number 118 = .ok (.ireturn, 1) := by decide +kernel
set_option maxRecDepth 20000 in
theorem ggX9_does_X9_whyNotCome : GoodIn wsX9_does wsX9_whyNotCome := goodIn_r _ [5, 6, 7, 8, 4, 9, 10, 11, 12, 13, 14, 15, 16, 17] (by decide +kernel) (by decide +kernel)
set_option maxRecDepth 20000 in
theorem gX9_does_X9_whyNotCome : GoodIn wsX9_does (va_wsS RX9 124 yX9_whyNotCome wsX9_whyNotCome) := goodIn_app (goodIn_of _ (by decide +kernel)) ggX9_does_X9_whyNotCome
set_option maxRecDepth 20000 in
theorem ggX9_does_X9_comeOn : GoodIn wsX9_does wsX9_comeOn := goodIn_r _ [20, 21, 22, 4, 23] (by decide +kernel) (by decide +kernel)
set_option maxRecDepth 20000 in
theorem gX9_does_X9_comeOn : GoodIn wsX9_does (va_wsS RX9 128 yX9_comeOn wsX9_comeOn) := goodIn_app (goodIn_of _ (by decide +kernel)) ggX9_does_X9_comeOn
set_option maxRecDepth 20000 in
theorem ggX9_does_X9_whyNotLend : GoodIn wsX9_does wsX9_whyNotLend := goodIn_r _ [26, 27, 28, 29, 4, 30, 11, 12, 13, 14, 15, 16, 17, 31, 32, 33, 34, 35, 36] (by decide +kernel) (by decide +kernel)
set_option maxRecDepth 20000 in
theorem gX9_does_X9_whyNotLend : GoodIn wsX9_does (va_wsS RX9 131 yX9_whyNotLend wsX9_whyNotLend) := goodIn_app (goodIn_of _ (by decide +kernel)) ggX9_does_X9_whyNotLend
set_option maxRecDepth 20000 in
theorem ggX9_does_X9_lendOn : GoodIn wsX9_does wsX9_lendOn := goodIn_r _ [39, 21, 22, 4, 23] (by decide +kernel) (by decide +kernel)
set_option maxRecDepth 20000 in
theorem gX9_does_X9_lendOn : GoodIn wsX9_does (va_wsS RX9 134 yX9_lendOn wsX9_lendOn) := goodIn_app (goodIn_of _ (by decide +kernel)) ggX9_does_X9_lendOn
set_option maxRecDepth 20000 in
theorem ggX9_does_X9_whyNotBring : GoodIn wsX9_does wsX9_whyNotBring := goodIn_r _ [42, 28, 29, 4, 30, 11, 12, 13, 31, 32, 33, 34, 35, 36] (by decide +kernel) (by decide +kernel)
set_option maxRecDepth 20000 in
theorem gX9_does_X9_whyNotBring : GoodIn wsX9_does (va_wsS RX9 137 yX9_whyNotBring wsX9_whyNotBring) := goodIn_app (goodIn_of _ (by decide +kernel)) ggX9_does_X9_whyNotBring
set_option maxRecDepth 20000 in
theorem ggX9_does_X9_bringOn : GoodIn wsX9_does wsX9_bringOn := goodIn_r _ [45, 46, 47, 4, 48, 31, 32, 33, 34, 35, 36, 49, 50, 51, 52, 53, 54, 21, 22, 23] (by decide +kernel) (by decide +kernel)
set_option maxRecDepth 20000 in
theorem gX9_does_X9_bringOn : GoodIn wsX9_does (va_wsS RX9 140 yX9_bringOn wsX9_bringOn) := goodIn_app (goodIn_of _ (by decide +kernel)) ggX9_does_X9_bringOn
set_option maxRecDepth 20000 in
theorem ggX9_does_X9_whyNotExchange : GoodIn wsX9_does wsX9_whyNotExchange := goodIn_r _ [57, 28, 29, 4, 30, 11, 12, 13, 58, 59, 60, 34, 35, 36, 31, 32, 33, 61, 62, 63] (by decide +kernel) (by decide +kernel)
set_option maxRecDepth 20000 in
theorem gX9_does_X9_whyNotExchange : GoodIn wsX9_does (va_wsS RX9 143 yX9_whyNotExchange wsX9_whyNotExchange) := goodIn_app (goodIn_of _ (by decide +kernel)) ggX9_does_X9_whyNotExchange
set_option maxRecDepth 20000 in
theorem ggX9_does_X9_exchangeOn : GoodIn wsX9_does wsX9_exchangeOn := goodIn_r _ [66, 34, 35, 4, 36, 67, 68, 69, 70, 71, 72, 73, 74, 75, 21, 22, 23, 52, 53, 54] (by decide +kernel) (by decide +kernel)
set_option maxRecDepth 20000 in
theorem gX9_does_X9_exchangeOn : GoodIn wsX9_does (va_wsS RX9 146 yX9_exchangeOn wsX9_exchangeOn) := goodIn_app (goodIn_of _ (by decide +kernel)) ggX9_does_X9_exchangeOn
set_option maxRecDepth 20000 in
theorem ggX9_does_X9_whyNotAdvance : GoodIn wsX9_does wsX9_whyNotAdvance := goodIn_r _ [78, 27, 14, 15, 4, 16, 17, 11, 12, 13, 28, 29, 30, 79, 80, 81, 61, 62, 63, 34, 35, 36, 31, 32, 33] (by decide +kernel) (by decide +kernel)
set_option maxRecDepth 20000 in
theorem gX9_does_X9_whyNotAdvance : GoodIn wsX9_does (va_wsS RX9 149 yX9_whyNotAdvance wsX9_whyNotAdvance) := goodIn_app (goodIn_of _ (by decide +kernel)) ggX9_does_X9_whyNotAdvance
set_option maxRecDepth 20000 in
theorem ggX9_does_X9_advanceOn : GoodIn wsX9_does wsX9_advanceOn := goodIn_r _ [84, 79, 80, 4, 81, 34, 35, 36, 73, 74, 75, 21, 22, 23] (by decide +kernel) (by decide +kernel)
set_option maxRecDepth 20000 in
theorem gX9_does_X9_advanceOn : GoodIn wsX9_does (va_wsS RX9 152 yX9_advanceOn wsX9_advanceOn) := goodIn_app (goodIn_of _ (by decide +kernel)) ggX9_does_X9_advanceOn
set_option maxRecDepth 20000 in
theorem ggX9_does_X9_whyNotDeliver : GoodIn wsX9_does wsX9_whyNotDeliver := goodIn_r _ [87, 28, 29, 4, 30, 11, 12, 13, 58, 59, 60, 34, 35, 36, 31, 32, 33, 88, 89, 90, 79, 80, 81] (by decide +kernel) (by decide +kernel)
set_option maxRecDepth 20000 in
theorem gX9_does_X9_whyNotDeliver : GoodIn wsX9_does (va_wsS RX9 155 yX9_whyNotDeliver wsX9_whyNotDeliver) := goodIn_app (goodIn_of _ (by decide +kernel)) ggX9_does_X9_whyNotDeliver
set_option maxRecDepth 20000 in
theorem ggX9_does_X9_deliverOn : GoodIn wsX9_does wsX9_deliverOn := goodIn_r _ [93, 34, 35, 4, 36, 79, 80, 81, 88, 89, 90, 67, 68, 69, 70, 71, 72, 49, 50, 51, 73, 74, 75, 21, 22, 23, 52, 53, 54] (by decide +kernel) (by decide +kernel)
set_option maxRecDepth 20000 in
theorem gX9_does_X9_deliverOn : GoodIn wsX9_does (va_wsS RX9 158 yX9_deliverOn wsX9_deliverOn) := goodIn_app (goodIn_of _ (by decide +kernel)) ggX9_does_X9_deliverOn
set_option maxRecDepth 20000 in
theorem ggX9_does_X9_whyNotTake : GoodIn wsX9_does wsX9_whyNotTake := goodIn_r _ [96, 28, 29, 4, 30, 11, 12, 13, 97, 98, 99, 10, 34, 35, 36] (by decide +kernel) (by decide +kernel)
set_option maxRecDepth 20000 in
theorem gX9_does_X9_whyNotTake : GoodIn wsX9_does (va_wsS RX9 161 yX9_whyNotTake wsX9_whyNotTake) := goodIn_app (goodIn_of _ (by decide +kernel)) ggX9_does_X9_whyNotTake
set_option maxRecDepth 20000 in
theorem ggX9_does_X9_takeOn : GoodIn wsX9_does wsX9_takeOn := goodIn_r _ [102, 34, 35, 4, 36, 21, 22, 23, 103, 104, 105] (by decide +kernel) (by decide +kernel)
set_option maxRecDepth 20000 in
theorem gX9_does_X9_takeOn : GoodIn wsX9_does (va_wsS RX9 164 yX9_takeOn wsX9_takeOn) := goodIn_app (goodIn_of _ (by decide +kernel)) ggX9_does_X9_takeOn
set_option maxRecDepth 20000 in
theorem ggX9_does_X9_whyNotBuy : GoodIn wsX9_does wsX9_whyNotBuy := goodIn_r _ [108, 28, 29, 4, 30, 11, 12, 13, 97, 98, 99, 10, 34, 35, 36] (by decide +kernel) (by decide +kernel)
set_option maxRecDepth 20000 in
theorem gX9_does_X9_whyNotBuy : GoodIn wsX9_does (va_wsS RX9 167 yX9_whyNotBuy wsX9_whyNotBuy) := goodIn_app (goodIn_of _ (by decide +kernel)) ggX9_does_X9_whyNotBuy
set_option maxRecDepth 20000 in
theorem ggX9_does_X9_buyOn : GoodIn wsX9_does wsX9_buyOn := goodIn_r _ [111, 34, 35, 4, 36, 21, 22, 23] (by decide +kernel) (by decide +kernel)
set_option maxRecDepth 20000 in
theorem gX9_does_X9_buyOn : GoodIn wsX9_does (va_wsS RX9 170 yX9_buyOn wsX9_buyOn) := goodIn_app (goodIn_of _ (by decide +kernel)) ggX9_does_X9_buyOn
set_option maxRecDepth 20000 in
theorem ggX9_does_X9_in : GoodIn wsX9_does wsX9_in := goodIn_r _ [13] (by decide +kernel) (by decide +kernel)
set_option maxRecDepth 20000 in
theorem gX9_does_X9_in : GoodIn wsX9_does (va_wsS RX9 37 yX9_in wsX9_in) := goodIn_app (goodIn_of _ (by decide +kernel)) ggX9_does_X9_in
set_option maxRecDepth 20000 in
theorem ggX9_does_X9_daysOn : GoodIn wsX9_does wsX9_daysOn := goodIn_r _ [114] (by decide +kernel) (by decide +kernel)
set_option maxRecDepth 20000 in
theorem gX9_does_X9_daysOn : GoodIn wsX9_does (va_wsS RX9 175 yX9_daysOn wsX9_daysOn) := goodIn_app (goodIn_of _ (by decide +kernel)) ggX9_does_X9_daysOn
theorem dX9_does_0 : decode cX9_does 0 = .ok (.iload_n 1, 1) := by decide +kernel
theorem dX9_does_1 : decode cX9_does 1 = .ok (.tableswitch 315 97 120 #[213, 291, 315, 315, 315, 315, 315, 315, 315, 315, 315, 139, 315, 111, 315, 315, 315, 167, 315, 263, 315, 241, 315, 189], 111) := by decide +kernel
theorem dX9_does_112 : decode cX9_does 112 = .ok (.aload_n 0, 1) := by decide +kernel
theorem dX9_does_113 : decode cX9_does 113 = .ok (.iload_n 2, 1) := by decide +kernel
theorem dX9_does_114 : decode cX9_does 114 = .ok (.iload_n 3, 1) := by decide +kernel
theorem dX9_does_115 : decode cX9_does 115 = .ok (.iload 4, 2) := by decide +kernel
theorem dX9_does_117 : decode cX9_does 117 = .ok (.invokestatic 124, 3) := by decide +kernel
theorem dX9_does_120 : decode cX9_does 120 = .ok (.ifCond .ne 18, 3) := by decide +kernel
theorem dX9_does_123 : decode cX9_does 123 = .ok (.aload_n 0, 1) := by decide +kernel
theorem dX9_does_124 : decode cX9_does 124 = .ok (.iload_n 2, 1) := by decide +kernel
theorem dX9_does_125 : decode cX9_does 125 = .ok (.iload_n 3, 1) := by decide +kernel
theorem dX9_does_126 : decode cX9_does 126 = .ok (.iload 4, 2) := by decide +kernel
theorem dX9_does_128 : decode cX9_does 128 = .ok (.invokestatic 128, 3) := by decide +kernel
theorem dX9_does_131 : decode cX9_does 131 = .ok (.ifCond .lt 7, 3) := by decide +kernel
theorem dX9_does_134 : decode cX9_does 134 = .ok (.iconst 1, 1) := by decide +kernel
theorem dX9_does_135 : decode cX9_does 135 = .ok (.goto 4, 3) := by decide +kernel
theorem dX9_does_138 : decode cX9_does 138 = .ok (.iconst 0, 1) := by decide +kernel
theorem dX9_does_139 : decode cX9_does 139 = .ok (.ireturn, 1) := by decide +kernel
theorem dX9_does_140 : decode cX9_does 140 = .ok (.aload_n 0, 1) := by decide +kernel
theorem dX9_does_141 : decode cX9_does 141 = .ok (.iload_n 2, 1) := by decide +kernel
theorem dX9_does_142 : decode cX9_does 142 = .ok (.iload_n 3, 1) := by decide +kernel
theorem dX9_does_143 : decode cX9_does 143 = .ok (.iload 4, 2) := by decide +kernel
theorem dX9_does_145 : decode cX9_does 145 = .ok (.invokestatic 131, 3) := by decide +kernel
theorem dX9_does_148 : decode cX9_does 148 = .ok (.ifCond .ne 18, 3) := by decide +kernel
theorem dX9_does_151 : decode cX9_does 151 = .ok (.aload_n 0, 1) := by decide +kernel
theorem dX9_does_152 : decode cX9_does 152 = .ok (.iload_n 2, 1) := by decide +kernel
theorem dX9_does_153 : decode cX9_does 153 = .ok (.iload_n 3, 1) := by decide +kernel
theorem dX9_does_154 : decode cX9_does 154 = .ok (.iload 4, 2) := by decide +kernel
theorem dX9_does_156 : decode cX9_does 156 = .ok (.invokestatic 134, 3) := by decide +kernel
theorem dX9_does_159 : decode cX9_does 159 = .ok (.ifCond .lt 7, 3) := by decide +kernel
theorem dX9_does_162 : decode cX9_does 162 = .ok (.iconst 1, 1) := by decide +kernel
theorem dX9_does_163 : decode cX9_does 163 = .ok (.goto 4, 3) := by decide +kernel
theorem dX9_does_166 : decode cX9_does 166 = .ok (.iconst 0, 1) := by decide +kernel
theorem dX9_does_167 : decode cX9_does 167 = .ok (.ireturn, 1) := by decide +kernel
theorem dX9_does_168 : decode cX9_does 168 = .ok (.aload_n 0, 1) := by decide +kernel
theorem dX9_does_169 : decode cX9_does 169 = .ok (.iload_n 2, 1) := by decide +kernel
theorem dX9_does_170 : decode cX9_does 170 = .ok (.invokestatic 137, 3) := by decide +kernel
theorem dX9_does_173 : decode cX9_does 173 = .ok (.ifCond .ne 15, 3) := by decide +kernel
theorem dX9_does_176 : decode cX9_does 176 = .ok (.aload_n 0, 1) := by decide +kernel
theorem dX9_does_177 : decode cX9_does 177 = .ok (.iload_n 2, 1) := by decide +kernel
theorem dX9_does_178 : decode cX9_does 178 = .ok (.invokestatic 140, 3) := by decide +kernel
theorem dX9_does_181 : decode cX9_does 181 = .ok (.ifCond .lt 7, 3) := by decide +kernel
theorem dX9_does_184 : decode cX9_does 184 = .ok (.iconst 1, 1) := by decide +kernel
theorem dX9_does_185 : decode cX9_does 185 = .ok (.goto 4, 3) := by decide +kernel
theorem dX9_does_188 : decode cX9_does 188 = .ok (.iconst 0, 1) := by decide +kernel
theorem dX9_does_189 : decode cX9_does 189 = .ok (.ireturn, 1) := by decide +kernel
theorem dX9_does_190 : decode cX9_does 190 = .ok (.aload_n 0, 1) := by decide +kernel
theorem dX9_does_191 : decode cX9_does 191 = .ok (.iload_n 2, 1) := by decide +kernel
theorem dX9_does_192 : decode cX9_does 192 = .ok (.iload_n 3, 1) := by decide +kernel
theorem dX9_does_193 : decode cX9_does 193 = .ok (.invokestatic 143, 3) := by decide +kernel
theorem dX9_does_196 : decode cX9_does 196 = .ok (.ifCond .ne 16, 3) := by decide +kernel
theorem dX9_does_199 : decode cX9_does 199 = .ok (.aload_n 0, 1) := by decide +kernel
theorem dX9_does_200 : decode cX9_does 200 = .ok (.iload_n 2, 1) := by decide +kernel
theorem dX9_does_201 : decode cX9_does 201 = .ok (.iload_n 3, 1) := by decide +kernel
theorem dX9_does_202 : decode cX9_does 202 = .ok (.invokestatic 146, 3) := by decide +kernel
theorem dX9_does_205 : decode cX9_does 205 = .ok (.ifCond .lt 7, 3) := by decide +kernel
theorem dX9_does_208 : decode cX9_does 208 = .ok (.iconst 1, 1) := by decide +kernel
theorem dX9_does_209 : decode cX9_does 209 = .ok (.goto 4, 3) := by decide +kernel
theorem dX9_does_212 : decode cX9_does 212 = .ok (.iconst 0, 1) := by decide +kernel
theorem dX9_does_213 : decode cX9_does 213 = .ok (.ireturn, 1) := by decide +kernel
theorem dX9_does_214 : decode cX9_does 214 = .ok (.aload_n 0, 1) := by decide +kernel
theorem dX9_does_215 : decode cX9_does 215 = .ok (.iload_n 2, 1) := by decide +kernel
theorem dX9_does_216 : decode cX9_does 216 = .ok (.iload_n 3, 1) := by decide +kernel
theorem dX9_does_217 : decode cX9_does 217 = .ok (.iload 4, 2) := by decide +kernel
theorem dX9_does_219 : decode cX9_does 219 = .ok (.invokestatic 149, 3) := by decide +kernel
theorem dX9_does_222 : decode cX9_does 222 = .ok (.ifCond .ne 18, 3) := by decide +kernel
theorem dX9_does_225 : decode cX9_does 225 = .ok (.aload_n 0, 1) := by decide +kernel
theorem dX9_does_226 : decode cX9_does 226 = .ok (.iload_n 2, 1) := by decide +kernel
theorem dX9_does_227 : decode cX9_does 227 = .ok (.iload_n 3, 1) := by decide +kernel
theorem dX9_does_228 : decode cX9_does 228 = .ok (.iload 4, 2) := by decide +kernel
theorem dX9_does_230 : decode cX9_does 230 = .ok (.invokestatic 152, 3) := by decide +kernel
theorem dX9_does_233 : decode cX9_does 233 = .ok (.ifCond .lt 7, 3) := by decide +kernel
theorem dX9_does_236 : decode cX9_does 236 = .ok (.iconst 1, 1) := by decide +kernel
theorem dX9_does_237 : decode cX9_does 237 = .ok (.goto 4, 3) := by decide +kernel
theorem dX9_does_240 : decode cX9_does 240 = .ok (.iconst 0, 1) := by decide +kernel
theorem dX9_does_241 : decode cX9_does 241 = .ok (.ireturn, 1) := by decide +kernel
theorem dX9_does_242 : decode cX9_does 242 = .ok (.aload_n 0, 1) := by decide +kernel
theorem dX9_does_243 : decode cX9_does 243 = .ok (.iload_n 2, 1) := by decide +kernel
theorem dX9_does_244 : decode cX9_does 244 = .ok (.invokestatic 155, 3) := by decide +kernel
theorem dX9_does_247 : decode cX9_does 247 = .ok (.ifCond .ne 15, 3) := by decide +kernel
theorem dX9_does_250 : decode cX9_does 250 = .ok (.aload_n 0, 1) := by decide +kernel
theorem dX9_does_251 : decode cX9_does 251 = .ok (.iload_n 2, 1) := by decide +kernel
theorem dX9_does_252 : decode cX9_does 252 = .ok (.invokestatic 158, 3) := by decide +kernel
theorem dX9_does_255 : decode cX9_does 255 = .ok (.ifCond .lt 7, 3) := by decide +kernel
theorem dX9_does_258 : decode cX9_does 258 = .ok (.iconst 1, 1) := by decide +kernel
theorem dX9_does_259 : decode cX9_does 259 = .ok (.goto 4, 3) := by decide +kernel
theorem dX9_does_262 : decode cX9_does 262 = .ok (.iconst 0, 1) := by decide +kernel
theorem dX9_does_263 : decode cX9_does 263 = .ok (.ireturn, 1) := by decide +kernel
theorem dX9_does_264 : decode cX9_does 264 = .ok (.aload_n 0, 1) := by decide +kernel
theorem dX9_does_265 : decode cX9_does 265 = .ok (.iload_n 2, 1) := by decide +kernel
theorem dX9_does_266 : decode cX9_does 266 = .ok (.iload_n 3, 1) := by decide +kernel
theorem dX9_does_267 : decode cX9_does 267 = .ok (.iload 4, 2) := by decide +kernel
theorem dX9_does_269 : decode cX9_does 269 = .ok (.invokestatic 161, 3) := by decide +kernel
theorem dX9_does_272 : decode cX9_does 272 = .ok (.ifCond .ne 18, 3) := by decide +kernel
theorem dX9_does_275 : decode cX9_does 275 = .ok (.aload_n 0, 1) := by decide +kernel
theorem dX9_does_276 : decode cX9_does 276 = .ok (.iload_n 2, 1) := by decide +kernel
theorem dX9_does_277 : decode cX9_does 277 = .ok (.iload_n 3, 1) := by decide +kernel
theorem dX9_does_278 : decode cX9_does 278 = .ok (.iload 4, 2) := by decide +kernel
theorem dX9_does_280 : decode cX9_does 280 = .ok (.invokestatic 164, 3) := by decide +kernel
theorem dX9_does_283 : decode cX9_does 283 = .ok (.ifCond .lt 7, 3) := by decide +kernel
theorem dX9_does_286 : decode cX9_does 286 = .ok (.iconst 1, 1) := by decide +kernel
theorem dX9_does_287 : decode cX9_does 287 = .ok (.goto 4, 3) := by decide +kernel
theorem dX9_does_290 : decode cX9_does 290 = .ok (.iconst 0, 1) := by decide +kernel
theorem dX9_does_291 : decode cX9_does 291 = .ok (.ireturn, 1) := by decide +kernel
theorem dX9_does_292 : decode cX9_does 292 = .ok (.aload_n 0, 1) := by decide +kernel
theorem dX9_does_293 : decode cX9_does 293 = .ok (.iload_n 2, 1) := by decide +kernel
theorem dX9_does_294 : decode cX9_does 294 = .ok (.iload_n 3, 1) := by decide +kernel
theorem dX9_does_295 : decode cX9_does 295 = .ok (.invokestatic 167, 3) := by decide +kernel
theorem dX9_does_298 : decode cX9_does 298 = .ok (.ifCond .ne 16, 3) := by decide +kernel
theorem dX9_does_301 : decode cX9_does 301 = .ok (.aload_n 0, 1) := by decide +kernel
theorem dX9_does_302 : decode cX9_does 302 = .ok (.iload_n 2, 1) := by decide +kernel
theorem dX9_does_303 : decode cX9_does 303 = .ok (.iload_n 3, 1) := by decide +kernel
theorem dX9_does_304 : decode cX9_does 304 = .ok (.invokestatic 170, 3) := by decide +kernel
theorem dX9_does_307 : decode cX9_does 307 = .ok (.ifCond .lt 7, 3) := by decide +kernel
theorem dX9_does_310 : decode cX9_does 310 = .ok (.iconst 1, 1) := by decide +kernel
theorem dX9_does_311 : decode cX9_does 311 = .ok (.goto 4, 3) := by decide +kernel
theorem dX9_does_314 : decode cX9_does 314 = .ok (.iconst 0, 1) := by decide +kernel
theorem dX9_does_315 : decode cX9_does 315 = .ok (.ireturn, 1) := by decide +kernel
theorem dX9_does_316 : decode cX9_does 316 = .ok (.iload_n 2, 1) := by decide +kernel
theorem dX9_does_317 : decode cX9_does 317 = .ok (.i2l, 1) := by decide +kernel
theorem dX9_does_318 : decode cX9_does 318 = .ok (.lconst 1, 1) := by decide +kernel
theorem dX9_does_319 : decode cX9_does 319 = .ok (.ldc2_w 173, 3) := by decide +kernel
theorem dX9_does_322 : decode cX9_does 322 = .ok (.invokestatic 37, 3) := by decide +kernel
theorem dX9_does_325 : decode cX9_does 325 = .ok (.ifCond .eq 15, 3) := by decide +kernel
theorem dX9_does_328 : decode cX9_does 328 = .ok (.aload_n 0, 1) := by decide +kernel
theorem dX9_does_329 : decode cX9_does 329 = .ok (.iload_n 2, 1) := by decide +kernel
theorem dX9_does_330 : decode cX9_does 330 = .ok (.invokestatic 175, 3) := by decide +kernel
theorem dX9_does_333 : decode cX9_does 333 = .ok (.ifCond .le 7, 3) := by decide +kernel
theorem dX9_does_336 : decode cX9_does 336 = .ok (.iconst 1, 1) := by decide +kernel
theorem dX9_does_337 : decode cX9_does 337 = .ok (.goto 4, 3) := by decide +kernel
theorem dX9_does_340 : decode cX9_does 340 = .ok (.iconst 0, 1) := by decide +kernel
theorem dX9_does_341 : decode cX9_does 341 = .ok (.ireturn, 1) := by decide +kernel
set_option maxRecDepth 20000 in
theorem ggX9_readCommand_X9_number : GoodIn wsX9_readCommand wsX9_number := goodIn_r _ [8, 2, 9, 1, 10, 11, 12, 7, 13, 127, 128, 129, 130, 131, 132, 133, 134, 135, 136, 137] (by decide +kernel) (by decide +kernel)
set_option maxRecDepth 20000 in
theorem gX9_readCommand_X9_number : GoodIn wsX9_readCommand (wsV RX9 178 RX9 yX9_number wsX9_number) := goodIn_app (goodIn_of _ (by decide +kernel)) ggX9_readCommand_X9_number
set_option maxRecDepth 20000 in
theorem ggX9_readCommand_X9_does : GoodIn wsX9_readCommand wsX9_does := goodIn_r _ [16, 17, 18, 19, 7, 20, 21, 22, 23, 24, 25, 11, 12, 13, 26, 27, 28, 29, 30, 31, 32, 33, 34, 35, 36, 37, 38, 39, 40, 41, 42, 43, 44, 45, 46, 47, 48, 49, 50, 51, 52, 53, 54, 55, 56, 57, 58, 59, 60, 61, 62, 63, 64, 65, 66, 67, 68, 69, 70, 71, 72, 73, 74, 75, 76, 77, 78, 79, 80, 81, 82, 83, 84, 85, 86, 87, 88, 89, 90, 91, 92, 93, 94, 95, 96, 97, 98, 99, 100, 101, 102, 103, 104, 105, 106, 107, 108, 109, 110, 111, 112, 113, 114, 115, 116, 117, 118, 119, 120, 121, 122, 123, 124, 125, 126] (by decide +kernel) (by decide +kernel)
set_option maxRecDepth 20000 in
theorem gX9_readCommand_X9_does : GoodIn wsX9_readCommand (va_wsS RX9 185 yX9_does wsX9_does) := goodIn_app (goodIn_of _ (by decide +kernel)) ggX9_readCommand_X9_does
theorem dX9_readCommand_0 : decode cX9_readCommand 0 = .ok (.aload_n 0, 1) := by decide +kernel
theorem dX9_readCommand_1 : decode cX9_readCommand 1 = .ok (.getfield 7, 3) := by decide +kernel
theorem dX9_readCommand_4 : decode cX9_readCommand 4 = .ok (.aload_n 0, 1) := by decide +kernel
theorem dX9_readCommand_5 : decode cX9_readCommand 5 = .ok (.getfield 119, 3) := by decide +kernel
theorem dX9_readCommand_8 : decode cX9_readCommand 8 = .ok (.iaload, 1) := by decide +kernel
theorem dX9_readCommand_9 : decode cX9_readCommand 9 = .ok (.istore_n 2, 1) := by decide +kernel
theorem dX9_readCommand_10 : decode cX9_readCommand 10 = .ok (.aload_n 0, 1) := by decide +kernel
theorem dX9_readCommand_11 : decode cX9_readCommand 11 = .ok (.dup, 1) := by decide +kernel
theorem dX9_readCommand_12 : decode cX9_readCommand 12 = .ok (.getfield 119, 3) := by decide +kernel
theorem dX9_readCommand_15 : decode cX9_readCommand 15 = .ok (.iconst 1, 1) := by decide +kernel
theorem dX9_readCommand_16 : decode cX9_readCommand 16 = .ok (.iadd, 1) := by decide +kernel
theorem dX9_readCommand_17 : decode cX9_readCommand 17 = .ok (.putfield 119, 3) := by decide +kernel
theorem dX9_readCommand_20 : decode cX9_readCommand 20 = .ok (.iconst 0, 1) := by decide +kernel
theorem dX9_readCommand_21 : decode cX9_readCommand 21 = .ok (.istore_n 3, 1) := by decide +kernel
theorem dX9_readCommand_22 : decode cX9_readCommand 22 = .ok (.iconst 0, 1) := by decide +kernel
theorem dX9_readCommand_23 : decode cX9_readCommand 23 = .ok (.istore 4, 2) := by decide +kernel
theorem dX9_readCommand_25 : decode cX9_readCommand 25 = .ok (.iconst 0, 1) := by decide +kernel
theorem dX9_readCommand_26 : decode cX9_readCommand 26 = .ok (.istore 5, 2) := by decide +kernel
theorem dX9_readCommand_28 : decode cX9_readCommand 28 = .ok (.iload_n 2, 1) := by decide +kernel
theorem dX9_readCommand_29 : decode cX9_readCommand 29 = .ok (.lookupswitch 263 #[(100, 251), (108, 108), (110, 59), (114, 158), (116, 201), (120, 170)], 59) := by decide +kernel
theorem dX9_readCommand_88 : decode cX9_readCommand 88 = .ok (.aload_n 0, 1) := by decide +kernel
theorem dX9_readCommand_89 : decode cX9_readCommand 89 = .ok (.iconst 1, 1) := by decide +kernel
theorem dX9_readCommand_90 : decode cX9_readCommand 90 = .ok (.iconst 0, 1) := by decide +kernel
theorem dX9_readCommand_91 : decode cX9_readCommand 91 = .ok (.iconst 2, 1) := by decide +kernel
theorem dX9_readCommand_92 : decode cX9_readCommand 92 = .ok (.invokevirtual 178, 3) := by decide +kernel
theorem dX9_readCommand_95 : decode cX9_readCommand 95 = .ok (.istore_n 3, 1) := by decide +kernel
theorem dX9_readCommand_96 : decode cX9_readCommand 96 = .ok (.iload_n 3, 1) := by decide +kernel
theorem dX9_readCommand_97 : decode cX9_readCommand 97 = .ok (.iconst (-1), 1) := by decide +kernel
theorem dX9_readCommand_98 : decode cX9_readCommand 98 = .ok (.if_icmp .ne 7, 3) := by decide +kernel
theorem dX9_readCommand_101 : decode cX9_readCommand 101 = .ok (.iconst (-1), 1) := by decide +kernel
