theorem dX9_setting_18 : decode cX9_setting 18 = .ok (.invokevirtual 116, 3) := by decide +kernel
theorem dX9_setting_21 : decode cX9_setting 21 = .ok (.ifCond .eq 5, 3) := by decide +kernel
theorem dX9_setting_24 : decode cX9_setting 24 = .ok (.iconst 0, 1) := by decide +kernel
theorem dX9_setting_25 : decode cX9_setting 25 = .ok (.ireturn, 1) := by decide +kernel
theorem dX9_setting_26 : decode cX9_setting 26 = .ok (.aload_n 0, 1) := by decide +kernel
theorem dX9_setting_27 : decode cX9_setting 27 = .ok (.getfield 13, 3) := by decide +kernel
theorem dX9_setting_30 : decode cX9_setting 30 = .ok (.iconst 2, 1) := by decide +kernel
theorem dX9_setting_31 : decode cX9_setting 31 = .ok (.iload_n 1, 1) := by decide +kernel
theorem dX9_setting_32 : decode cX9_setting 32 = .ok (.iadd, 1) := by decide +kernel
theorem dX9_setting_33 : decode cX9_setting 33 = .ok (.iaload, 1) := by decide +kernel
theorem dX9_setting_34 : decode cX9_setting 34 = .ok (.ireturn, 1) := by decide +kernel
set_option maxRecDepth 20000 in
theorem ggX9_remember_X9_copyState : GoodIn wsX9_remember wsX9_copyState := goodIn_r _ [7] (by decide +kernel) (by decide +kernel)
set_option maxRecDepth 20000 in
theorem gX9_remember_X9_copyState : GoodIn wsX9_remember (va_wsS RX9 197 yX9_copyState wsX9_copyState) := goodIn_app (goodIn_of _ (by decide +kernel)) ggX9_remember_X9_copyState
theorem dX9_remember_0 : decode cX9_remember 0 = .ok (.aload_n 0, 1) := by decide +kernel
theorem dX9_remember_1 : decode cX9_remember 1 = .ok (.getfield 201, 3) := by decide +kernel
theorem dX9_remember_4 : decode cX9_remember 4 = .ok (.bipush 14, 2) := by decide +kernel
theorem dX9_remember_6 : decode cX9_remember 6 = .ok (.if_icmp .ne 44, 3) := by decide +kernel
theorem dX9_remember_9 : decode cX9_remember 9 = .ok (.iconst 0, 1) := by decide +kernel
theorem dX9_remember_10 : decode cX9_remember 10 = .ok (.istore_n 1, 1) := by decide +kernel
theorem dX9_remember_11 : decode cX9_remember 11 = .ok (.iload_n 1, 1) := by decide +kernel
theorem dX9_remember_12 : decode cX9_remember 12 = .ok (.sipush 4979, 3) := by decide +kernel
theorem dX9_remember_15 : decode cX9_remember 15 = .ok (.if_icmp .ge 25, 3) := by decide +kernel
theorem dX9_remember_18 : decode cX9_remember 18 = .ok (.aload_n 0, 1) := by decide +kernel
theorem dX9_remember_19 : decode cX9_remember 19 = .ok (.getfield 19, 3) := by decide +kernel
theorem dX9_remember_22 : decode cX9_remember 22 = .ok (.iload_n 1, 1) := by decide +kernel
theorem dX9_remember_23 : decode cX9_remember 23 = .ok (.aload_n 0, 1) := by decide +kernel
theorem dX9_remember_24 : decode cX9_remember 24 = .ok (.getfield 19, 3) := by decide +kernel
theorem dX9_remember_27 : decode cX9_remember 27 = .ok (.iload_n 1, 1) := by decide +kernel
theorem dX9_remember_28 : decode cX9_remember 28 = .ok (.sipush 383, 3) := by decide +kernel
theorem dX9_remember_31 : decode cX9_remember 31 = .ok (.iadd, 1) := by decide +kernel
theorem dX9_remember_32 : decode cX9_remember 32 = .ok (.iaload, 1) := by decide +kernel
theorem dX9_remember_33 : decode cX9_remember 33 = .ok (.iastore, 1) := by decide +kernel
theorem dX9_remember_34 : decode cX9_remember 34 = .ok (.iinc 1 1, 3) := by decide +kernel
theorem dX9_remember_37 : decode cX9_remember 37 = .ok (.goto (-26), 3) := by decide +kernel
theorem dX9_remember_40 : decode cX9_remember 40 = .ok (.aload_n 0, 1) := by decide +kernel
theorem dX9_remember_41 : decode cX9_remember 41 = .ok (.dup, 1) := by decide +kernel
theorem dX9_remember_42 : decode cX9_remember 42 = .ok (.getfield 201, 3) := by decide +kernel
theorem dX9_remember_45 : decode cX9_remember 45 = .ok (.iconst 1, 1) := by decide +kernel
theorem dX9_remember_46 : decode cX9_remember 46 = .ok (.isub, 1) := by decide +kernel
theorem dX9_remember_47 : decode cX9_remember 47 = .ok (.putfield 201, 3) := by decide +kernel
theorem dX9_remember_50 : decode cX9_remember 50 = .ok (.aload_n 0, 1) := by decide +kernel
theorem dX9_remember_51 : decode cX9_remember 51 = .ok (.getfield 13, 3) := by decide +kernel
theorem dX9_remember_54 : decode cX9_remember 54 = .ok (.iconst 0, 1) := by decide +kernel
theorem dX9_remember_55 : decode cX9_remember 55 = .ok (.aload_n 0, 1) := by decide +kernel
theorem dX9_remember_56 : decode cX9_remember 56 = .ok (.getfield 19, 3) := by decide +kernel
theorem dX9_remember_59 : decode cX9_remember 59 = .ok (.sipush 383, 3) := by decide +kernel
theorem dX9_remember_62 : decode cX9_remember 62 = .ok (.aload_n 0, 1) := by decide +kernel
theorem dX9_remember_63 : decode cX9_remember 63 = .ok (.getfield 201, 3) := by decide +kernel
theorem dX9_remember_66 : decode cX9_remember 66 = .ok (.imul, 1) := by decide +kernel
theorem dX9_remember_67 : decode cX9_remember 67 = .ok (.invokestatic 197, 3) := by decide +kernel
theorem dX9_remember_70 : decode cX9_remember 70 = .ok (.aload_n 0, 1) := by decide +kernel
theorem dX9_remember_71 : decode cX9_remember 71 = .ok (.dup, 1) := by decide +kernel
theorem dX9_remember_72 : decode cX9_remember 72 = .ok (.getfield 201, 3) := by decide +kernel
theorem dX9_remember_75 : decode cX9_remember 75 = .ok (.iconst 1, 1) := by decide +kernel
theorem dX9_remember_76 : decode cX9_remember 76 = .ok (.iadd, 1) := by decide +kernel
theorem dX9_remember_77 : decode cX9_remember 77 = .ok (.putfield 201, 3) := by decide +kernel
theorem dX9_remember_80 : decode cX9_remember 80 = .ok (.return_, 1) := by decide +kernel
set_option maxRecDepth 20000 in
theorem ggX9_come_X9_whyNotCome : GoodIn wsX9_come wsX9_whyNotCome := goodIn_r _ [5, 6, 7, 8, 4, 9, 10, 11, 12, 13, 14, 15, 16, 17] (by decide +kernel) (by decide +kernel)
set_option maxRecDepth 20000 in
theorem gX9_come_X9_whyNotCome : GoodIn wsX9_come (va_wsS RX9 124 yX9_whyNotCome wsX9_whyNotCome) := goodIn_app (goodIn_of _ (by decide +kernel)) ggX9_come_X9_whyNotCome
set_option maxRecDepth 20000 in
theorem ggX9_come_X9_refused : GoodIn wsX9_come wsX9_refused := goodIn_r _ [21, 22, 38, 39, 40, 41, 42, 43, 44, 45, 46, 47, 48] (by decide +kernel) (by decide +kernel)
set_option maxRecDepth 20000 in
theorem gX9_come_X9_refused : GoodIn wsX9_come (wsV RX9 116 RX9 yX9_refused wsX9_refused) := goodIn_app (goodIn_of _ (by decide +kernel)) ggX9_come_X9_refused
set_option maxRecDepth 20000 in
theorem ggX9_come_X9_remember : GoodIn wsX9_come wsX9_remember := goodIn_r _ [26, 27, 28, 1, 29, 30, 4, 31, 38, 39, 40, 41, 42, 43, 44, 45, 46, 47, 48] (by decide +kernel) (by decide +kernel)
set_option maxRecDepth 20000 in
theorem gX9_come_X9_remember : GoodIn wsX9_come (wsV RX9 217 RX9 yX9_remember wsX9_remember) := goodIn_app (goodIn_of _ (by decide +kernel)) ggX9_come_X9_remember
set_option maxRecDepth 20000 in
theorem ggX9_come_X9_comeOn : GoodIn wsX9_come wsX9_comeOn := goodIn_r _ [34, 35, 36, 4, 37] (by decide +kernel) (by decide +kernel)
set_option maxRecDepth 20000 in
theorem gX9_come_X9_comeOn : GoodIn wsX9_come (va_wsS RX9 128 yX9_comeOn wsX9_comeOn) := goodIn_app (goodIn_of _ (by decide +kernel)) ggX9_come_X9_comeOn
theorem dX9_come_0 : decode cX9_come 0 = .ok (.aload_n 0, 1) := by decide +kernel
theorem dX9_come_1 : decode cX9_come 1 = .ok (.aload_n 0, 1) := by decide +kernel
theorem dX9_come_2 : decode cX9_come 2 = .ok (.getfield 13, 3) := by decide +kernel
theorem dX9_come_5 : decode cX9_come 5 = .ok (.iload_n 1, 1) := by decide +kernel
theorem dX9_come_6 : decode cX9_come 6 = .ok (.iload_n 2, 1) := by decide +kernel
theorem dX9_come_7 : decode cX9_come 7 = .ok (.iload_n 3, 1) := by decide +kernel
theorem dX9_come_8 : decode cX9_come 8 = .ok (.invokestatic 124, 3) := by decide +kernel
theorem dX9_come_11 : decode cX9_come 11 = .ok (.invokevirtual 116, 3) := by decide +kernel
theorem dX9_come_14 : decode cX9_come 14 = .ok (.ifCond .eq 5, 3) := by decide +kernel
theorem dX9_come_17 : decode cX9_come 17 = .ok (.iconst 0, 1) := by decide +kernel
theorem dX9_come_18 : decode cX9_come 18 = .ok (.ireturn, 1) := by decide +kernel
theorem dX9_come_19 : decode cX9_come 19 = .ok (.aload_n 0, 1) := by decide +kernel
theorem dX9_come_20 : decode cX9_come 20 = .ok (.invokevirtual 217, 3) := by decide +kernel
theorem dX9_come_23 : decode cX9_come 23 = .ok (.aload_n 0, 1) := by decide +kernel
theorem dX9_come_24 : decode cX9_come 24 = .ok (.getfield 13, 3) := by decide +kernel
theorem dX9_come_27 : decode cX9_come 27 = .ok (.iload_n 1, 1) := by decide +kernel
theorem dX9_come_28 : decode cX9_come 28 = .ok (.iload_n 2, 1) := by decide +kernel
theorem dX9_come_29 : decode cX9_come 29 = .ok (.iload_n 3, 1) := by decide +kernel
theorem dX9_come_30 : decode cX9_come 30 = .ok (.invokestatic 128, 3) := by decide +kernel
theorem dX9_come_33 : decode cX9_come 33 = .ok (.ireturn, 1) := by decide +kernel
set_option maxRecDepth 20000 in
theorem ggX9_lend_X9_whyNotLend : GoodIn wsX9_lend wsX9_whyNotLend := goodIn_r _ [5, 6, 7, 8, 4, 9, 10, 11, 12, 13, 14, 15, 16, 17, 18, 19, 20, 21, 22] (by decide +kernel) (by decide +kernel)
set_option maxRecDepth 20000 in
theorem gX9_lend_X9_whyNotLend : GoodIn wsX9_lend (va_wsS RX9 131 yX9_whyNotLend wsX9_whyNotLend) := goodIn_app (goodIn_of _ (by decide +kernel)) ggX9_lend_X9_whyNotLend
set_option maxRecDepth 20000 in
theorem ggX9_lend_X9_refused : GoodIn wsX9_lend wsX9_refused := goodIn_r _ [26, 27, 43, 44, 45, 46, 47, 48, 49, 50, 51, 52, 53] (by decide +kernel) (by decide +kernel)
set_option maxRecDepth 20000 in
theorem gX9_lend_X9_refused : GoodIn wsX9_lend (wsV RX9 116 RX9 yX9_refused wsX9_refused) := goodIn_app (goodIn_of _ (by decide +kernel)) ggX9_lend_X9_refused
set_option maxRecDepth 20000 in
theorem ggX9_lend_X9_remember : GoodIn wsX9_lend wsX9_remember := goodIn_r _ [31, 32, 33, 1, 34, 35, 4, 36, 43, 44, 45, 46, 47, 48, 49, 50, 51, 52, 53] (by decide +kernel) (by decide +kernel)
set_option maxRecDepth 20000 in
theorem gX9_lend_X9_remember : GoodIn wsX9_lend (wsV RX9 217 RX9 yX9_remember wsX9_remember) := goodIn_app (goodIn_of _ (by decide +kernel)) ggX9_lend_X9_remember
set_option maxRecDepth 20000 in
theorem ggX9_lend_X9_lendOn : GoodIn wsX9_lend wsX9_lendOn := goodIn_r _ [39, 40, 41, 4, 42] (by decide +kernel) (by decide +kernel)
set_option maxRecDepth 20000 in
theorem gX9_lend_X9_lendOn : GoodIn wsX9_lend (va_wsS RX9 134 yX9_lendOn wsX9_lendOn) := goodIn_app (goodIn_of _ (by decide +kernel)) ggX9_lend_X9_lendOn
theorem dX9_lend_0 : decode cX9_lend 0 = .ok (.aload_n 0, 1) := by decide +kernel
theorem dX9_lend_1 : decode cX9_lend 1 = .ok (.aload_n 0, 1) := by decide +kernel
theorem dX9_lend_2 : decode cX9_lend 2 = .ok (.getfield 13, 3) := by decide +kernel
theorem dX9_lend_5 : decode cX9_lend 5 = .ok (.iload_n 1, 1) := by decide +kernel
theorem dX9_lend_6 : decode cX9_lend 6 = .ok (.iload_n 2, 1) := by decide +kernel
theorem dX9_lend_7 : decode cX9_lend 7 = .ok (.iload_n 3, 1) := by decide +kernel
theorem dX9_lend_8 : decode cX9_lend 8 = .ok (.invokestatic 131, 3) := by decide +kernel
theorem dX9_lend_11 : decode cX9_lend 11 = .ok (.invokevirtual 116, 3) := by decide +kernel
theorem dX9_lend_14 : decode cX9_lend 14 = .ok (.ifCond .eq 5, 3) := by decide +kernel
theorem dX9_lend_17 : decode cX9_lend 17 = .ok (.iconst 0, 1) := by decide +kernel
theorem dX9_lend_18 : decode cX9_lend 18 = .ok (.ireturn, 1) := by decide +kernel
theorem dX9_lend_19 : decode cX9_lend 19 = .ok (.aload_n 0, 1) := by decide +kernel
theorem dX9_lend_20 : decode cX9_lend 20 = .ok (.invokevirtual 217, 3) := by decide +kernel
theorem dX9_lend_23 : decode cX9_lend 23 = .ok (.aload_n 0, 1) := by decide +kernel
theorem dX9_lend_24 : decode cX9_lend 24 = .ok (.getfield 13, 3) := by decide +kernel
theorem dX9_lend_27 : decode cX9_lend 27 = .ok (.iload_n 1, 1) := by decide +kernel
theorem dX9_lend_28 : decode cX9_lend 28 = .ok (.iload_n 2, 1) := by decide +kernel
theorem dX9_lend_29 : decode cX9_lend 29 = .ok (.iload_n 3, 1) := by decide +kernel
theorem dX9_lend_30 : decode cX9_lend 30 = .ok (.invokestatic 134, 3) := by decide +kernel
theorem dX9_lend_33 : decode cX9_lend 33 = .ok (.ireturn, 1) := by decide +kernel
set_option maxRecDepth 20000 in
theorem ggX9_bring_X9_whyNotBring : GoodIn wsX9_bring wsX9_whyNotBring := goodIn_r _ [5, 6, 7, 4, 8, 9, 10, 11, 12, 13, 14, 15, 16, 17] (by decide +kernel) (by decide +kernel)
set_option maxRecDepth 20000 in
theorem gX9_bring_X9_whyNotBring : GoodIn wsX9_bring (va_wsS RX9 137 yX9_whyNotBring wsX9_whyNotBring) := goodIn_app (goodIn_of _ (by decide +kernel)) ggX9_bring_X9_whyNotBring
set_option maxRecDepth 20000 in
theorem ggX9_bring_X9_refused : GoodIn wsX9_bring wsX9_refused := goodIn_r _ [21, 22, 47, 48, 49, 50, 51, 52, 53, 54, 55, 56, 57] (by decide +kernel) (by decide +kernel)
set_option maxRecDepth 20000 in
theorem gX9_bring_X9_refused : GoodIn wsX9_bring (wsV RX9 116 RX9 yX9_refused wsX9_refused) := goodIn_app (goodIn_of _ (by decide +kernel)) ggX9_bring_X9_refused
set_option maxRecDepth 20000 in
theorem ggX9_bring_X9_remember : GoodIn wsX9_bring wsX9_remember := goodIn_r _ [26, 27, 28, 1, 29, 30, 4, 31, 47, 48, 49, 50, 51, 52, 53, 54, 55, 56, 57] (by decide +kernel) (by decide +kernel)
set_option maxRecDepth 20000 in
theorem gX9_bring_X9_remember : GoodIn wsX9_bring (wsV RX9 217 RX9 yX9_remember wsX9_remember) := goodIn_app (goodIn_of _ (by decide +kernel)) ggX9_bring_X9_remember
set_option maxRecDepth 20000 in
theorem ggX9_bring_X9_bringOn : GoodIn wsX9_bring wsX9_bringOn := goodIn_r _ [34, 35, 36, 4, 37, 12, 13, 14, 15, 16, 17, 38, 39, 40, 41, 42, 43, 44, 45, 46] (by decide +kernel) (by decide +kernel)
set_option maxRecDepth 20000 in
theorem gX9_bring_X9_bringOn : GoodIn wsX9_bring (va_wsS RX9 140 yX9_bringOn wsX9_bringOn) := goodIn_app (goodIn_of _ (by decide +kernel)) ggX9_bring_X9_bringOn
theorem dX9_bring_0 : decode cX9_bring 0 = .ok (.aload_n 0, 1) := by decide +kernel
theorem dX9_bring_1 : decode cX9_bring 1 = .ok (.aload_n 0, 1) := by decide +kernel
theorem dX9_bring_2 : decode cX9_bring 2 = .ok (.getfield 13, 3) := by decide +kernel
theorem dX9_bring_5 : decode cX9_bring 5 = .ok (.iload_n 1, 1) := by decide +kernel
theorem dX9_bring_6 : decode cX9_bring 6 = .ok (.invokestatic 137, 3) := by decide +kernel
theorem dX9_bring_9 : decode cX9_bring 9 = .ok (.invokevirtual 116, 3) := by decide +kernel
theorem dX9_bring_12 : decode cX9_bring 12 = .ok (.ifCond .eq 5, 3) := by decide +kernel
theorem dX9_bring_15 : decode cX9_bring 15 = .ok (.iconst 0, 1) := by decide +kernel
theorem dX9_bring_16 : decode cX9_bring 16 = .ok (.ireturn, 1) := by decide +kernel
theorem dX9_bring_17 : decode cX9_bring 17 = .ok (.aload_n 0, 1) := by decide +kernel
theorem dX9_bring_18 : decode cX9_bring 18 = .ok (.invokevirtual 217, 3) := by decide +kernel
theorem dX9_bring_21 : decode cX9_bring 21 = .ok (.aload_n 0, 1) := by decide +kernel
theorem dX9_bring_22 : decode cX9_bring 22 = .ok (.getfield 13, 3) := by decide +kernel
theorem dX9_bring_25 : decode cX9_bring 25 = .ok (.iload_n 1, 1) := by decide +kernel
theorem dX9_bring_26 : decode cX9_bring 26 = .ok (.invokestatic 140, 3) := by decide +kernel
theorem dX9_bring_29 : decode cX9_bring 29 = .ok (.ireturn, 1) := by decide +kernel
set_option maxRecDepth 20000 in
theorem ggX9_exchange_X9_whyNotExchange : GoodIn wsX9_exchange wsX9_whyNotExchange := goodIn_r _ [5, 6, 7, 4, 8, 9, 10, 11, 12, 13, 14, 15, 16, 17, 18, 19, 20, 21, 22, 23] (by decide +kernel) (by decide +kernel)
set_option maxRecDepth 20000 in
theorem gX9_exchange_X9_whyNotExchange : GoodIn wsX9_exchange (va_wsS RX9 143 yX9_whyNotExchange wsX9_whyNotExchange) := goodIn_app (goodIn_of _ (by decide +kernel)) ggX9_exchange_X9_whyNotExchange
set_option maxRecDepth 20000 in
theorem ggX9_exchange_X9_refused : GoodIn wsX9_exchange wsX9_refused := goodIn_r _ [27, 28, 56, 57, 58, 59, 60, 61, 62, 63, 64, 65, 66] (by decide +kernel) (by decide +kernel)
set_option maxRecDepth 20000 in
theorem gX9_exchange_X9_refused : GoodIn wsX9_exchange (wsV RX9 116 RX9 yX9_refused wsX9_refused) := goodIn_app (goodIn_of _ (by decide +kernel)) ggX9_exchange_X9_refused
set_option maxRecDepth 20000 in
theorem ggX9_exchange_X9_remember : GoodIn wsX9_exchange wsX9_remember := goodIn_r _ [32, 33, 34, 1, 35, 36, 4, 37, 56, 57, 58, 59, 60, 61, 62, 63, 64, 65, 66] (by decide +kernel) (by decide +kernel)
set_option maxRecDepth 20000 in
theorem gX9_exchange_X9_remember : GoodIn wsX9_exchange (wsV RX9 217 RX9 yX9_remember wsX9_remember) := goodIn_app (goodIn_of _ (by decide +kernel)) ggX9_exchange_X9_remember
set_option maxRecDepth 20000 in
theorem ggX9_exchange_X9_exchangeOn : GoodIn wsX9_exchange wsX9_exchangeOn := goodIn_r _ [40, 15, 16, 4, 17, 41, 42, 43, 44, 45, 46, 47, 48, 49, 50, 51, 52, 53, 54, 55] (by decide +kernel) (by decide +kernel)
set_option maxRecDepth 20000 in
theorem gX9_exchange_X9_exchangeOn : GoodIn wsX9_exchange (va_wsS RX9 146 yX9_exchangeOn wsX9_exchangeOn) := goodIn_app (goodIn_of _ (by decide +kernel)) ggX9_exchange_X9_exchangeOn
theorem dX9_exchange_0 : decode cX9_exchange 0 = .ok (.aload_n 0, 1) := by decide +kernel
theorem dX9_exchange_1 : decode cX9_exchange 1 = .ok (.aload_n 0, 1) := by decide +kernel
theorem dX9_exchange_2 : decode cX9_exchange 2 = .ok (.getfield 13, 3) := by decide +kernel
theorem dX9_exchange_5 : decode cX9_exchange 5 = .ok (.iload_n 1, 1) := by decide +kernel
theorem dX9_exchange_6 : decode cX9_exchange 6 = .ok (.iload_n 2, 1) := by decide +kernel
theorem dX9_exchange_7 : decode cX9_exchange 7 = .ok (.invokestatic 143, 3) := by decide +kernel
theorem dX9_exchange_10 : decode cX9_exchange 10 = .ok (.invokevirtual 116, 3) := by decide +kernel
theorem dX9_exchange_13 : decode cX9_exchange 13 = .ok (.ifCond .eq 5, 3) := by decide +kernel
theorem dX9_exchange_16 : decode cX9_exchange 16 = .ok (.iconst 0, 1) := by decide +kernel
theorem dX9_exchange_17 : decode cX9_exchange 17 = .ok (.ireturn, 1) := by decide +kernel
theorem dX9_exchange_18 : decode cX9_exchange 18 = .ok (.aload_n 0, 1) := by decide +kernel
theorem dX9_exchange_19 : decode cX9_exchange 19 = .ok (.invokevirtual 217, 3) := by decide +kernel
theorem dX9_exchange_22 : decode cX9_exchange 22 = .ok (.aload_n 0, 1) := by decide +kernel
theorem dX9_exchange_23 : decode cX9_exchange 23 = .ok (.getfield 13, 3) := by decide +kernel
theorem dX9_exchange_26 : decode cX9_exchange 26 = .ok (.iload_n 1, 1) := by decide +kernel
theorem dX9_exchange_27 : decode cX9_exchange 27 = .ok (.iload_n 2, 1) := by decide +kernel
theorem dX9_exchange_28 : decode cX9_exchange 28 = .ok (.invokestatic 146, 3) := by decide +kernel
theorem dX9_exchange_31 : decode cX9_exchange 31 = .ok (.ireturn, 1) := by decide +kernel
set_option maxRecDepth 20000 in
theorem ggX9_advance_X9_whyNotAdvance : GoodIn wsX9_advance wsX9_whyNotAdvance := goodIn_r _ [5, 6, 7, 8, 4, 9, 10, 11, 12, 13, 14, 15, 16, 17, 18, 19, 20, 21, 22, 23, 24, 25, 26, 27, 28] (by decide +kernel) (by decide +kernel)
set_option maxRecDepth 20000 in
theorem gX9_advance_X9_whyNotAdvance : GoodIn wsX9_advance (va_wsS RX9 149 yX9_whyNotAdvance wsX9_whyNotAdvance) := goodIn_app (goodIn_of _ (by decide +kernel)) ggX9_advance_X9_whyNotAdvance
set_option maxRecDepth 20000 in
theorem ggX9_advance_X9_refused : GoodIn wsX9_advance wsX9_refused := goodIn_r _ [32, 33, 52, 53, 54, 55, 56, 57, 58, 59, 60, 61, 62] (by decide +kernel) (by decide +kernel)
set_option maxRecDepth 20000 in
theorem gX9_advance_X9_refused : GoodIn wsX9_advance (wsV RX9 116 RX9 yX9_refused wsX9_refused) := goodIn_app (goodIn_of _ (by decide +kernel)) ggX9_advance_X9_refused
set_option maxRecDepth 20000 in
theorem ggX9_advance_X9_remember : GoodIn wsX9_advance wsX9_remember := goodIn_r _ [37, 38, 39, 1, 40, 41, 4, 42, 52, 53, 54, 55, 56, 57, 58, 59, 60, 61, 62] (by decide +kernel) (by decide +kernel)
set_option maxRecDepth 20000 in
theorem gX9_advance_X9_remember : GoodIn wsX9_advance (wsV RX9 217 RX9 yX9_remember wsX9_remember) := goodIn_app (goodIn_of _ (by decide +kernel)) ggX9_advance_X9_remember
set_option maxRecDepth 20000 in
theorem ggX9_advance_X9_advanceOn : GoodIn wsX9_advance wsX9_advanceOn := goodIn_r _ [45, 17, 18, 4, 19, 23, 24, 25, 46, 47, 48, 49, 50, 51] (by decide +kernel) (by decide +kernel)
set_option maxRecDepth 20000 in
theorem gX9_advance_X9_advanceOn : GoodIn wsX9_advance (va_wsS RX9 152 yX9_advanceOn wsX9_advanceOn) := goodIn_app (goodIn_of _ (by decide +kernel)) ggX9_advance_X9_advanceOn
theorem dX9_advance_0 : decode cX9_advance 0 = .ok (.aload_n 0, 1) := by decide +kernel
theorem dX9_advance_1 : decode cX9_advance 1 = .ok (.aload_n 0, 1) := by decide +kernel
theorem dX9_advance_2 : decode cX9_advance 2 = .ok (.getfield 13, 3) := by decide +kernel
theorem dX9_advance_5 : decode cX9_advance 5 = .ok (.iload_n 1, 1) := by decide +kernel
theorem dX9_advance_6 : decode cX9_advance 6 = .ok (.iload_n 2, 1) := by decide +kernel
theorem dX9_advance_7 : decode cX9_advance 7 = .ok (.iload_n 3, 1) := by decide +kernel
theorem dX9_advance_8 : decode cX9_advance 8 = .ok (.invokestatic 149, 3) := by decide +kernel
theorem dX9_advance_11 : decode cX9_advance 11 = .ok (.invokevirtual 116, 3) := by decide +kernel
theorem dX9_advance_14 : decode cX9_advance 14 = .ok (.ifCond .eq 5, 3) := by decide +kernel
theorem dX9_advance_17 : decode cX9_advance 17 = .ok (.iconst 0, 1) := by decide +kernel
theorem dX9_advance_18 : decode cX9_advance 18 = .ok (.ireturn, 1) := by decide +kernel
theorem dX9_advance_19 : decode cX9_advance 19 = .ok (.aload_n 0, 1) := by decide +kernel
theorem dX9_advance_20 : decode cX9_advance 20 = .ok (.invokevirtual 217, 3) := by decide +kernel
theorem dX9_advance_23 : decode cX9_advance 23 = .ok (.aload_n 0, 1) := by decide +kernel
theorem dX9_advance_24 : decode cX9_advance 24 = .ok (.getfield 13, 3) := by decide +kernel
theorem dX9_advance_27 : decode cX9_advance 27 = .ok (.iload_n 1, 1) := by decide +kernel
theorem dX9_advance_28 : decode cX9_advance 28 = .ok (.iload_n 2, 1) := by decide +kernel
theorem dX9_advance_29 : decode cX9_advance 29 = .ok (.iload_n 3, 1) := by decide +kernel
theorem dX9_advance_30 : decode cX9_advance 30 = .ok (.invokestatic 152, 3) := by decide +kernel
theorem dX9_advance_33 : decode cX9_advance 33 = .ok (.ireturn, 1) := by decide +kernel
set_option maxRecDepth 20000 in
theorem ggX9_deliver_X9_whyNotDeliver : GoodIn wsX9_deliver wsX9_whyNotDeliver := goodIn_r _ [5, 6, 7, 4, 8, 9, 10, 11, 12, 13, 14, 15, 16, 17, 18, 19, 20, 21, 22, 23, 24, 25, 26] (by decide +kernel) (by decide +kernel)
set_option maxRecDepth 20000 in
theorem gX9_deliver_X9_whyNotDeliver : GoodIn wsX9_deliver (va_wsS RX9 155 yX9_whyNotDeliver wsX9_whyNotDeliver) := goodIn_app (goodIn_of _ (by decide +kernel)) ggX9_deliver_X9_whyNotDeliver
set_option maxRecDepth 20000 in
theorem ggX9_deliver_X9_refused : GoodIn wsX9_deliver wsX9_refused := goodIn_r _ [30, 31, 62, 63, 64, 65, 66, 67, 68, 69, 70, 71, 72] (by decide +kernel) (by decide +kernel)
set_option maxRecDepth 20000 in
theorem gX9_deliver_X9_refused : GoodIn wsX9_deliver (wsV RX9 116 RX9 yX9_refused wsX9_refused) := goodIn_app (goodIn_of _ (by decide +kernel)) ggX9_deliver_X9_refused
set_option maxRecDepth 20000 in
theorem ggX9_deliver_X9_remember : GoodIn wsX9_deliver wsX9_remember := goodIn_r _ [35, 36, 37, 1, 38, 39, 4, 40, 62, 63, 64, 65, 66, 67, 68, 69, 70, 71, 72] (by decide +kernel) (by decide +kernel)
set_option maxRecDepth 20000 in
theorem gX9_deliver_X9_remember : GoodIn wsX9_deliver (wsV RX9 217 RX9 yX9_remember wsX9_remember) := goodIn_app (goodIn_of _ (by decide +kernel)) ggX9_deliver_X9_remember
set_option maxRecDepth 20000 in
theorem ggX9_deliver_X9_deliverOn : GoodIn wsX9_deliver wsX9_deliverOn := goodIn_r _ [43, 15, 16, 4, 17, 24, 25, 26, 21, 22, 23, 44, 45, 46, 47, 48, 49, 50, 51, 52, 53, 54, 55, 56, 57, 58, 59, 60, 61] (by decide +kernel) (by decide +kernel)
set_option maxRecDepth 20000 in
theorem gX9_deliver_X9_deliverOn : GoodIn wsX9_deliver (va_wsS RX9 158 yX9_deliverOn wsX9_deliverOn) := goodIn_app (goodIn_of _ (by decide +kernel)) ggX9_deliver_X9_deliverOn
theorem dX9_deliver_0 : decode cX9_deliver 0 = .ok (.aload_n 0, 1) := by decide +kernel
theorem dX9_deliver_1 : decode cX9_deliver 1 = .ok (.aload_n 0, 1) := by decide +kernel
theorem dX9_deliver_2 : decode cX9_deliver 2 = .ok (.getfield 13, 3) := by decide +kernel
theorem dX9_deliver_5 : decode cX9_deliver 5 = .ok (.iload_n 1, 1) := by decide +kernel
theorem dX9_deliver_6 : decode cX9_deliver 6 = .ok (.invokestatic 155, 3) := by decide +kernel
theorem dX9_deliver_9 : decode cX9_deliver 9 = .ok (.invokevirtual 116, 3) := by decide +kernel
theorem dX9_deliver_12 : decode cX9_deliver 12 = .ok (.ifCond .eq 5, 3) := by decide +kernel
theorem dX9_deliver_15 : decode cX9_deliver 15 = .ok (.iconst 0, 1) := by decide +kernel
theorem dX9_deliver_16 : decode cX9_deliver 16 = .ok (.ireturn, 1) := by decide +kernel
theorem dX9_deliver_17 : decode cX9_deliver 17 = .ok (.aload_n 0, 1) := by decide +kernel
theorem dX9_deliver_18 : decode cX9_deliver 18 = .ok (.invokevirtual 217, 3) := by decide +kernel
theorem dX9_deliver_21 : decode cX9_deliver 21 = .ok (.aload_n 0, 1) := by decide +kernel
theorem dX9_deliver_22 : decode cX9_deliver 22 = .ok (.getfield 13, 3) := by decide +kernel
theorem dX9_deliver_25 : decode cX9_deliver 25 = .ok (.iload_n 1, 1) := by decide +kernel
theorem dX9_deliver_26 : decode cX9_deliver 26 = .ok (.invokestatic 158, 3) := by decide +kernel
theorem dX9_deliver_29 : decode cX9_deliver 29 = .ok (.ireturn, 1) := by decide +kernel
set_option maxRecDepth 20000 in
theorem ggX9_take_X9_whyNotTake : GoodIn wsX9_take wsX9_whyNotTake := goodIn_r _ [5, 6, 7, 4, 8, 9, 10, 11, 12, 13, 14, 15, 16, 17, 18] (by decide +kernel) (by decide +kernel)
set_option maxRecDepth 20000 in
theorem gX9_take_X9_whyNotTake : GoodIn wsX9_take (va_wsS RX9 161 yX9_whyNotTake wsX9_whyNotTake) := goodIn_app (goodIn_of _ (by decide +kernel)) ggX9_take_X9_whyNotTake
set_option maxRecDepth 20000 in
theorem ggX9_take_X9_refused : GoodIn wsX9_take wsX9_refused := goodIn_r _ [22, 23, 42, 43, 44, 45, 46, 47, 48, 49, 50, 51, 52] (by decide +kernel) (by decide +kernel)
set_option maxRecDepth 20000 in
theorem gX9_take_X9_refused : GoodIn wsX9_take (wsV RX9 116 RX9 yX9_refused wsX9_refused) := goodIn_app (goodIn_of _ (by decide +kernel)) ggX9_take_X9_refused
set_option maxRecDepth 20000 in
theorem ggX9_take_X9_remember : GoodIn wsX9_take wsX9_remember := goodIn_r _ [27, 28, 29, 1, 30, 31, 4, 32, 42, 43, 44, 45, 46, 47, 48, 49, 50, 51, 52] (by decide +kernel) (by decide +kernel)
set_option maxRecDepth 20000 in
theorem gX9_take_X9_remember : GoodIn wsX9_take (wsV RX9 217 RX9 yX9_remember wsX9_remember) := goodIn_app (goodIn_of _ (by decide +kernel)) ggX9_take_X9_remember
set_option maxRecDepth 20000 in
theorem ggX9_take_X9_takeOn : GoodIn wsX9_take wsX9_takeOn := goodIn_r _ [35, 16, 17, 4, 18, 36, 37, 38, 39, 40, 41] (by decide +kernel) (by decide +kernel)
set_option maxRecDepth 20000 in
theorem gX9_take_X9_takeOn : GoodIn wsX9_take (va_wsS RX9 164 yX9_takeOn wsX9_takeOn) := goodIn_app (goodIn_of _ (by decide +kernel)) ggX9_take_X9_takeOn
theorem dX9_take_0 : decode cX9_take 0 = .ok (.aload_n 0, 1) := by decide +kernel
theorem dX9_take_1 : decode cX9_take 1 = .ok (.aload_n 0, 1) := by decide +kernel
theorem dX9_take_2 : decode cX9_take 2 = .ok (.getfield 13, 3) := by decide +kernel
theorem dX9_take_5 : decode cX9_take 5 = .ok (.iload_n 1, 1) := by decide +kernel
theorem dX9_take_6 : decode cX9_take 6 = .ok (.iload_n 2, 1) := by decide +kernel
theorem dX9_take_7 : decode cX9_take 7 = .ok (.iload_n 3, 1) := by decide +kernel
theorem dX9_take_8 : decode cX9_take 8 = .ok (.invokestatic 161, 3) := by decide +kernel
theorem dX9_take_11 : decode cX9_take 11 = .ok (.invokevirtual 116, 3) := by decide +kernel
theorem dX9_take_14 : decode cX9_take 14 = .ok (.ifCond .eq 5, 3) := by decide +kernel
theorem dX9_take_17 : decode cX9_take 17 = .ok (.iconst 0, 1) := by decide +kernel
theorem dX9_take_18 : decode cX9_take 18 = .ok (.ireturn, 1) := by decide +kernel
theorem dX9_take_19 : decode cX9_take 19 = .ok (.aload_n 0, 1) := by decide +kernel
theorem dX9_take_20 : decode cX9_take 20 = .ok (.invokevirtual 217, 3) := by decide +kernel
theorem dX9_take_23 : decode cX9_take 23 = .ok (.aload_n 0, 1) := by decide +kernel
theorem dX9_take_24 : decode cX9_take 24 = .ok (.getfield 13, 3) := by decide +kernel
theorem dX9_take_27 : decode cX9_take 27 = .ok (.iload_n 1, 1) := by decide +kernel
theorem dX9_take_28 : decode cX9_take 28 = .ok (.iload_n 2, 1) := by decide +kernel
theorem dX9_take_29 : decode cX9_take 29 = .ok (.iload_n 3, 1) := by decide +kernel
theorem dX9_take_30 : decode cX9_take 30 = .ok (.invokestatic 164, 3) := by decide +kernel
theorem dX9_take_33 : decode cX9_take 33 = .ok (.ireturn, 1) := by decide +kernel
set_option maxRecDepth 20000 in
theorem ggX9_settle_X9_whyNotSettle : GoodIn wsX9_settle wsX9_whyNotSettle := goodIn_r _ [5, 6, 7, 4, 8, 9, 10, 11, 12, 13, 14, 15, 16, 17, 18, 19, 20, 21, 22] (by decide +kernel) (by decide +kernel)
set_option maxRecDepth 20000 in
theorem gX9_settle_X9_whyNotSettle : GoodIn wsX9_settle (va_wsS RX9 220 yX9_whyNotSettle wsX9_whyNotSettle) := goodIn_app (goodIn_of _ (by decide +kernel)) ggX9_settle_X9_whyNotSettle
set_option maxRecDepth 20000 in
theorem ggX9_settle_X9_refused : GoodIn wsX9_settle wsX9_refused := goodIn_r _ [26, 27, 43, 44, 45, 46, 47, 48, 49, 50, 51, 52, 53] (by decide +kernel) (by decide +kernel)
set_option maxRecDepth 20000 in
theorem gX9_settle_X9_refused : GoodIn wsX9_settle (wsV RX9 116 RX9 yX9_refused wsX9_refused) := goodIn_app (goodIn_of _ (by decide +kernel)) ggX9_settle_X9_refused
set_option maxRecDepth 20000 in
theorem ggX9_settle_X9_remember : GoodIn wsX9_settle wsX9_remember := goodIn_r _ [31, 32, 33, 1, 34, 35, 4, 36, 43, 44, 45, 46, 47, 48, 49, 50, 51, 52, 53] (by decide +kernel) (by decide +kernel)
set_option maxRecDepth 20000 in
theorem gX9_settle_X9_remember : GoodIn wsX9_settle (wsV RX9 217 RX9 yX9_remember wsX9_remember) := goodIn_app (goodIn_of _ (by decide +kernel)) ggX9_settle_X9_remember
set_option maxRecDepth 20000 in
theorem ggX9_settle_X9_settleOn : GoodIn wsX9_settle wsX9_settleOn := goodIn_r _ [39, 20, 21, 4, 22, 40, 41, 42] (by decide +kernel) (by decide +kernel)
set_option maxRecDepth 20000 in
theorem gX9_settle_X9_settleOn : GoodIn wsX9_settle (va_wsS RX9 224 yX9_settleOn wsX9_settleOn) := goodIn_app (goodIn_of _ (by decide +kernel)) ggX9_settle_X9_settleOn
theorem dX9_settle_0 : decode cX9_settle 0 = .ok (.aload_n 0, 1) := by decide +kernel
theorem dX9_settle_1 : decode cX9_settle 1 = .ok (.aload_n 0, 1) := by decide +kernel
theorem dX9_settle_2 : decode cX9_settle 2 = .ok (.getfield 13, 3) := by decide +kernel
theorem dX9_settle_5 : decode cX9_settle 5 = .ok (.iload_n 1, 1) := by decide +kernel
theorem dX9_settle_6 : decode cX9_settle 6 = .ok (.iload_n 2, 1) := by decide +kernel
theorem dX9_settle_7 : decode cX9_settle 7 = .ok (.iload_n 3, 1) := by decide +kernel
theorem dX9_settle_8 : decode cX9_settle 8 = .ok (.iload 4, 2) := by decide +kernel
theorem dX9_settle_10 : decode cX9_settle 10 = .ok (.invokestatic 220, 3) := by decide +kernel
theorem dX9_settle_13 : decode cX9_settle 13 = .ok (.invokevirtual 116, 3) := by decide +kernel
theorem dX9_settle_16 : decode cX9_settle 16 = .ok (.ifCond .eq 5, 3) := by decide +kernel
theorem dX9_settle_19 : decode cX9_settle 19 = .ok (.iconst 0, 1) := by decide +kernel
theorem dX9_settle_20 : decode cX9_settle 20 = .ok (.ireturn, 1) := by decide +kernel
theorem dX9_settle_21 : decode cX9_settle 21 = .ok (.aload_n 0, 1) := by decide +kernel
theorem dX9_settle_22 : decode cX9_settle 22 = .ok (.invokevirtual 217, 3) := by decide +kernel
theorem dX9_settle_25 : decode cX9_settle 25 = .ok (.aload_n 0, 1) := by decide +kernel
theorem dX9_settle_26 : decode cX9_settle 26 = .ok (.getfield 13, 3) := by decide +kernel
theorem dX9_settle_29 : decode cX9_settle 29 = .ok (.iload_n 1, 1) := by decide +kernel
theorem dX9_settle_30 : decode cX9_settle 30 = .ok (.iload_n 2, 1) := by decide +kernel
theorem dX9_settle_31 : decode cX9_settle 31 = .ok (.iload_n 3, 1) := by decide +kernel
theorem dX9_settle_32 : decode cX9_settle 32 = .ok (.iload 4, 2) := by decide +kernel
theorem dX9_settle_34 : decode cX9_settle 34 = .ok (.invokestatic 224, 3) := by decide +kernel
theorem dX9_settle_37 : decode cX9_settle 37 = .ok (.ireturn, 1) := by decide +kernel
set_option maxRecDepth 20000 in
theorem ggX9_buy_X9_whyNotBuy : GoodIn wsX9_buy wsX9_whyNotBuy := goodIn_r _ [5, 6, 7, 4, 8, 9, 10, 11, 12, 13, 14, 15, 16, 17, 18] (by decide +kernel) (by decide +kernel)
set_option maxRecDepth 20000 in
theorem gX9_buy_X9_whyNotBuy : GoodIn wsX9_buy (va_wsS RX9 167 yX9_whyNotBuy wsX9_whyNotBuy) := goodIn_app (goodIn_of _ (by decide +kernel)) ggX9_buy_X9_whyNotBuy
set_option maxRecDepth 20000 in
theorem ggX9_buy_X9_refused : GoodIn wsX9_buy wsX9_refused := goodIn_r _ [22, 23, 39, 40, 41, 42, 43, 44, 45, 46, 47, 48, 49] (by decide +kernel) (by decide +kernel)
set_option maxRecDepth 20000 in
theorem gX9_buy_X9_refused : GoodIn wsX9_buy (wsV RX9 116 RX9 yX9_refused wsX9_refused) := goodIn_app (goodIn_of _ (by decide +kernel)) ggX9_buy_X9_refused
set_option maxRecDepth 20000 in
theorem ggX9_buy_X9_remember : GoodIn wsX9_buy wsX9_remember := goodIn_r _ [27, 28, 29, 1, 30, 31, 4, 32, 39, 40, 41, 42, 43, 44, 45, 46, 47, 48, 49] (by decide +kernel) (by decide +kernel)
set_option maxRecDepth 20000 in
theorem gX9_buy_X9_remember : GoodIn wsX9_buy (wsV RX9 217 RX9 yX9_remember wsX9_remember) := goodIn_app (goodIn_of _ (by decide +kernel)) ggX9_buy_X9_remember
set_option maxRecDepth 20000 in
theorem ggX9_buy_X9_buyOn : GoodIn wsX9_buy wsX9_buyOn := goodIn_r _ [35, 16, 17, 4, 18, 36, 37, 38] (by decide +kernel) (by decide +kernel)
set_option maxRecDepth 20000 in
theorem gX9_buy_X9_buyOn : GoodIn wsX9_buy (va_wsS RX9 170 yX9_buyOn wsX9_buyOn) := goodIn_app (goodIn_of _ (by decide +kernel)) ggX9_buy_X9_buyOn
theorem dX9_buy_0 : decode cX9_buy 0 = .ok (.aload_n 0, 1) := by decide +kernel
theorem dX9_buy_1 : decode cX9_buy 1 = .ok (.aload_n 0, 1) := by decide +kernel
theorem dX9_buy_2 : decode cX9_buy 2 = .ok (.getfield 13, 3) := by decide +kernel
theorem dX9_buy_5 : decode cX9_buy 5 = .ok (.iload_n 1, 1) := by decide +kernel
theorem dX9_buy_6 : decode cX9_buy 6 = .ok (.iload_n 2, 1) := by decide +kernel
theorem dX9_buy_7 : decode cX9_buy 7 = .ok (.invokestatic 167, 3) := by decide +kernel
theorem dX9_buy_10 : decode cX9_buy 10 = .ok (.invokevirtual 116, 3) := by decide +kernel
theorem dX9_buy_13 : decode cX9_buy 13 = .ok (.ifCond .eq 5, 3) := by decide +kernel
theorem dX9_buy_16 : decode cX9_buy 16 = .ok (.iconst 0, 1) := by decide +kernel
theorem dX9_buy_17 : decode cX9_buy 17 = .ok (.ireturn, 1) := by decide +kernel
theorem dX9_buy_18 : decode cX9_buy 18 = .ok (.aload_n 0, 1) := by decide +kernel
theorem dX9_buy_19 : decode cX9_buy 19 = .ok (.invokevirtual 217, 3) := by decide +kernel
theorem dX9_buy_22 : decode cX9_buy 22 = .ok (.aload_n 0, 1) := by decide +kernel
theorem dX9_buy_23 : decode cX9_buy 23 = .ok (.getfield 13, 3) := by decide +kernel
theorem dX9_buy_26 : decode cX9_buy 26 = .ok (.iload_n 1, 1) := by decide +kernel
theorem dX9_buy_27 : decode cX9_buy 27 = .ok (.iload_n 2, 1) := by decide +kernel
theorem dX9_buy_28 : decode cX9_buy 28 = .ok (.invokestatic 170, 3) := by decide +kernel
theorem dX9_buy_31 : decode cX9_buy 31 = .ok (.ireturn, 1) := by decide +kernel
set_option maxRecDepth 20000 in
theorem ggX9_days_X9_in : GoodIn wsX9_days wsX9_in := goodIn_r _ [6] (by decide +kernel) (by decide +kernel)
set_option maxRecDepth 20000 in
theorem gX9_days_X9_in : GoodIn wsX9_days (va_wsS RX9 37 yX9_in wsX9_in) := goodIn_app (goodIn_of _ (by decide +kernel)) ggX9_days_X9_in
set_option maxRecDepth 20000 in
theorem ggX9_days_X9_refused : GoodIn wsX9_days wsX9_refused := goodIn_r _ [10, 11, 24, 25, 26, 27, 28, 29, 30, 31, 32, 33, 34] (by decide +kernel) (by decide +kernel)
set_option maxRecDepth 20000 in
theorem gX9_days_X9_refused : GoodIn wsX9_days (wsV RX9 116 RX9 yX9_refused wsX9_refused) := goodIn_app (goodIn_of _ (by decide +kernel)) ggX9_days_X9_refused
set_option maxRecDepth 20000 in
theorem ggX9_days_X9_remember : GoodIn wsX9_days wsX9_remember := goodIn_r _ [15, 16, 17, 2, 18, 19, 5, 20, 24, 25, 26, 27, 28, 29, 30, 31, 32, 33, 34] (by decide +kernel) (by decide +kernel)
set_option maxRecDepth 20000 in
theorem gX9_days_X9_remember : GoodIn wsX9_days (wsV RX9 217 RX9 yX9_remember wsX9_remember) := goodIn_app (goodIn_of _ (by decide +kernel)) ggX9_days_X9_remember
set_option maxRecDepth 20000 in
theorem ggX9_days_X9_daysOn : GoodIn wsX9_days wsX9_daysOn := goodIn_r _ [23] (by decide +kernel) (by decide +kernel)
set_option maxRecDepth 20000 in
theorem gX9_days_X9_daysOn : GoodIn wsX9_days (va_wsS RX9 175 yX9_daysOn wsX9_daysOn) := goodIn_app (goodIn_of _ (by decide +kernel)) ggX9_days_X9_daysOn
theorem dX9_days_0 : decode cX9_days 0 = .ok (.aload_n 0, 1) := by decide +kernel
theorem dX9_days_1 : decode cX9_days 1 = .ok (.iload_n 1, 1) := by decide +kernel
theorem dX9_days_2 : decode cX9_days 2 = .ok (.i2l, 1) := by decide +kernel
theorem dX9_days_3 : decode cX9_days 3 = .ok (.lconst 1, 1) := by decide +kernel
theorem dX9_days_4 : decode cX9_days 4 = .ok (.ldc2_w 173, 3) := by decide +kernel
theorem dX9_days_7 : decode cX9_days 7 = .ok (.invokestatic 37, 3) := by decide +kernel
theorem dX9_days_10 : decode cX9_days 10 = .ok (.ifCond .eq 7, 3) := by decide +kernel
theorem dX9_days_13 : decode cX9_days 13 = .ok (.iconst 0, 1) := by decide +kernel
theorem dX9_days_14 : decode cX9_days 14 = .ok (.goto 4, 3) := by decide +kernel
theorem dX9_days_17 : decode cX9_days 17 = .ok (.iconst 1, 1) := by decide +kernel
theorem dX9_days_18 : decode cX9_days 18 = .ok (.invokevirtual 116, 3) := by decide +kernel
theorem dX9_days_21 : decode cX9_days 21 = .ok (.ifCond .eq 5, 3) := by decide +kernel
theorem dX9_days_24 : decode cX9_days 24 = .ok (.iconst 0, 1) := by decide +kernel
theorem dX9_days_25 : decode cX9_days 25 = .ok (.ireturn, 1) := by decide +kernel
theorem dX9_days_26 : decode cX9_days 26 = .ok (.aload_n 0, 1) := by decide +kernel
theorem dX9_days_27 : decode cX9_days 27 = .ok (.invokevirtual 217, 3) := by decide +kernel
theorem dX9_days_30 : decode cX9_days 30 = .ok (.aload_n 0, 1) := by decide +kernel
theorem dX9_days_31 : decode cX9_days 31 = .ok (.getfield 13, 3) := by decide +kernel
theorem dX9_days_34 : decode cX9_days 34 = .ok (.iload_n 1, 1) := by decide +kernel
theorem dX9_days_35 : decode cX9_days 35 = .ok (.invokestatic 175, 3) := by decide +kernel
theorem dX9_days_38 : decode cX9_days 38 = .ok (.ireturn, 1) := by decide +kernel
set_option maxRecDepth 20000 in
theorem ggX9_set_X9_in : GoodIn wsX9_set wsX9_in := goodIn_r _ [8] (by decide +kernel) (by decide +kernel)
set_option maxRecDepth 20000 in
theorem gX9_set_X9_in : GoodIn wsX9_set (va_wsS RX9 37 yX9_in wsX9_in) := goodIn_app (goodIn_of _ (by decide +kernel)) ggX9_set_X9_in
set_option maxRecDepth 20000 in
theorem ggX9_set_X9_refused : GoodIn wsX9_set wsX9_refused := goodIn_r _ [12, 13, 23, 24, 25, 26, 27, 28, 29, 30, 31, 32, 33] (by decide +kernel) (by decide +kernel)
set_option maxRecDepth 20000 in
theorem gX9_set_X9_refused : GoodIn wsX9_set (wsV RX9 116 RX9 yX9_refused wsX9_refused) := goodIn_app (goodIn_of _ (by decide +kernel)) ggX9_set_X9_refused
set_option maxRecDepth 20000 in
theorem ggX9_set_X9_remember : GoodIn wsX9_set wsX9_remember := goodIn_r _ [17, 18, 19, 4, 20, 21, 7, 22, 23, 24, 25, 26, 27, 28, 29, 30, 31, 32, 33] (by decide +kernel) (by decide +kernel)
set_option maxRecDepth 20000 in
theorem gX9_set_X9_remember : GoodIn wsX9_set (wsV RX9 217 RX9 yX9_remember wsX9_remember) := goodIn_app (goodIn_of _ (by decide +kernel)) ggX9_set_X9_remember
theorem dX9_set_0 : decode cX9_set 0 = .ok (.aload_n 0, 1) := by decide +kernel
theorem dX9_set_1 : decode cX9_set 1 = .ok (.iload_n 1, 1) := by decide +kernel
theorem dX9_set_2 : decode cX9_set 2 = .ok (.ifCond .ne 15, 3) := by decide +kernel
theorem dX9_set_5 : decode cX9_set 5 = .ok (.iload_n 2, 1) := by decide +kernel
theorem dX9_set_6 : decode cX9_set 6 = .ok (.i2l, 1) := by decide +kernel
theorem dX9_set_7 : decode cX9_set 7 = .ok (.lconst 0, 1) := by decide +kernel
theorem dX9_set_8 : decode cX9_set 8 = .ok (.ldc2_w 173, 3) := by decide +kernel
theorem dX9_set_11 : decode cX9_set 11 = .ok (.invokestatic 37, 3) := by decide +kernel
theorem dX9_set_14 : decode cX9_set 14 = .ok (.ifCond .ne 27, 3) := by decide +kernel
theorem dX9_set_17 : decode cX9_set 17 = .ok (.iload_n 1, 1) := by decide +kernel
theorem dX9_set_18 : decode cX9_set 18 = .ok (.i2l, 1) := by decide +kernel
theorem dX9_set_19 : decode cX9_set 19 = .ok (.lconst 1, 1) := by decide +kernel
theorem dX9_set_20 : decode cX9_set 20 = .ok (.ldc2_w 43, 3) := by decide +kernel
theorem dX9_set_23 : decode cX9_set 23 = .ok (.invokestatic 37, 3) := by decide +kernel
theorem dX9_set_26 : decode cX9_set 26 = .ok (.ifCond .eq 19, 3) := by decide +kernel
theorem dX9_set_29 : decode cX9_set 29 = .ok (.iload_n 2, 1) := by decide +kernel
theorem dX9_set_30 : decode cX9_set 30 = .ok (.i2l, 1) := by decide +kernel
theorem dX9_set_31 : decode cX9_set 31 = .ok (.lconst 0, 1) := by decide +kernel
theorem dX9_set_32 : decode cX9_set 32 = .ok (.ldc2_w 227, 3) := by decide +kernel
theorem dX9_set_35 : decode cX9_set 35 = .ok (.invokestatic 37, 3) := by decide +kernel
theorem dX9_set_38 : decode cX9_set 38 = .ok (.ifCond .eq 7, 3) := by decide +kernel
theorem dX9_set_41 : decode cX9_set 41 = .ok (.iconst 0, 1) := by decide +kernel
theorem dX9_set_42 : decode cX9_set 42 = .ok (.goto 4, 3) := by decide +kernel
theorem dX9_set_45 : decode cX9_set 45 = .ok (.iconst 1, 1) := by decide +kernel
theorem dX9_set_46 : decode cX9_set 46 = .ok (.invokevirtual 116, 3) := by decide +kernel
theorem dX9_set_49 : decode cX9_set 49 = .ok (.ifCond .eq 5, 3) := by decide +kernel
theorem dX9_set_52 : decode cX9_set 52 = .ok (.iconst 0, 1) := by decide +kernel
theorem dX9_set_53 : decode cX9_set 53 = .ok (.ireturn, 1) := by decide +kernel
theorem dX9_set_54 : decode cX9_set 54 = .ok (.aload_n 0, 1) := by decide +kernel
theorem dX9_set_55 : decode cX9_set 55 = .ok (.invokevirtual 217, 3) := by decide +kernel
theorem dX9_set_58 : decode cX9_set 58 = .ok (.aload_n 0, 1) := by decide +kernel
theorem dX9_set_59 : decode cX9_set 59 = .ok (.getfield 13, 3) := by decide +kernel
theorem dX9_set_62 : decode cX9_set 62 = .ok (.iconst 2, 1) := by decide +kernel
theorem dX9_set_63 : decode cX9_set 63 = .ok (.iload_n 1, 1) := by decide +kernel
theorem dX9_set_64 : decode cX9_set 64 = .ok (.iadd, 1) := by decide +kernel
theorem dX9_set_65 : decode cX9_set 65 = .ok (.iaload, 1) := by decide +kernel
theorem dX9_set_66 : decode cX9_set 66 = .ok (.istore_n 3, 1) := by decide +kernel
theorem dX9_set_67 : decode cX9_set 67 = .ok (.aload_n 0, 1) := by decide +kernel
theorem dX9_set_68 : decode cX9_set 68 = .ok (.getfield 13, 3) := by decide +kernel
theorem dX9_set_71 : decode cX9_set 71 = .ok (.iconst 2, 1) := by decide +kernel
theorem dX9_set_72 : decode cX9_set 72 = .ok (.iload_n 1, 1) := by decide +kernel
theorem dX9_set_73 : decode cX9_set 73 = .ok (.iadd, 1) := by decide +kernel
theorem dX9_set_74 : decode cX9_set 74 = .ok (.iload_n 2, 1) := by decide +kernel
theorem dX9_set_75 : decode cX9_set 75 = .ok (.iastore, 1) := by decide +kernel
theorem dX9_set_76 : decode cX9_set 76 = .ok (.iload_n 3, 1) := by decide +kernel
theorem dX9_set_77 : decode cX9_set 77 = .ok (.ireturn, 1) := by decide +kernel
set_option maxRecDepth 20000 in
theorem ggX9_undo_X9_refused : GoodIn wsX9_undo wsX9_refused := goodIn_r _ [8, 9, 13, 14, 15, 16, 17, 18, 19, 20, 21, 22, 23] (by decide +kernel) (by decide +kernel)
set_option maxRecDepth 20000 in
theorem gX9_undo_X9_refused : GoodIn wsX9_undo (wsV RX9 116 RX9 yX9_refused wsX9_refused) := goodIn_app (goodIn_of _ (by decide +kernel)) ggX9_undo_X9_refused
set_option maxRecDepth 20000 in
theorem ggX9_undo_X9_copyState : GoodIn wsX9_undo wsX9_copyState := goodIn_r _ [12] (by decide +kernel) (by decide +kernel)
set_option maxRecDepth 20000 in
theorem gX9_undo_X9_copyState : GoodIn wsX9_undo (va_wsS RX9 197 yX9_copyState wsX9_copyState) := goodIn_app (goodIn_of _ (by decide +kernel)) ggX9_undo_X9_copyState
theorem dX9_undo_0 : decode cX9_undo 0 = .ok (.aload_n 0, 1) := by decide +kernel
theorem dX9_undo_1 : decode cX9_undo 1 = .ok (.aload_n 0, 1) := by decide +kernel
theorem dX9_undo_2 : decode cX9_undo 2 = .ok (.getfield 201, 3) := by decide +kernel
theorem dX9_undo_5 : decode cX9_undo 5 = .ok (.ifCond .ne 7, 3) := by decide +kernel
theorem dX9_undo_8 : decode cX9_undo 8 = .ok (.iconst 1, 1) := by decide +kernel
theorem dX9_undo_9 : decode cX9_undo 9 = .ok (.goto 4, 3) := by decide +kernel
theorem dX9_undo_12 : decode cX9_undo 12 = .ok (.iconst 0, 1) := by decide +kernel
theorem dX9_undo_13 : decode cX9_undo 13 = .ok (.invokevirtual 116, 3) := by decide +kernel
theorem dX9_undo_16 : decode cX9_undo 16 = .ok (.ifCond .eq 5, 3) := by decide +kernel
theorem dX9_undo_19 : decode cX9_undo 19 = .ok (.iconst 0, 1) := by decide +kernel
theorem dX9_undo_20 : decode cX9_undo 20 = .ok (.ireturn, 1) := by decide +kernel
theorem dX9_undo_21 : decode cX9_undo 21 = .ok (.aload_n 0, 1) := by decide +kernel
theorem dX9_undo_22 : decode cX9_undo 22 = .ok (.dup, 1) := by decide +kernel
theorem dX9_undo_23 : decode cX9_undo 23 = .ok (.getfield 201, 3) := by decide +kernel
theorem dX9_undo_26 : decode cX9_undo 26 = .ok (.iconst 1, 1) := by decide +kernel
theorem dX9_undo_27 : decode cX9_undo 27 = .ok (.isub, 1) := by decide +kernel
theorem dX9_undo_28 : decode cX9_undo 28 = .ok (.putfield 201, 3) := by decide +kernel
theorem dX9_undo_31 : decode cX9_undo 31 = .ok (.aload_n 0, 1) := by decide +kernel
theorem dX9_undo_32 : decode cX9_undo 32 = .ok (.getfield 19, 3) := by decide +kernel
theorem dX9_undo_35 : decode cX9_undo 35 = .ok (.sipush 383, 3) := by decide +kernel
theorem dX9_undo_38 : decode cX9_undo 38 = .ok (.aload_n 0, 1) := by decide +kernel
theorem dX9_undo_39 : decode cX9_undo 39 = .ok (.getfield 201, 3) := by decide +kernel
theorem dX9_undo_42 : decode cX9_undo 42 = .ok (.imul, 1) := by decide +kernel
theorem dX9_undo_43 : decode cX9_undo 43 = .ok (.aload_n 0, 1) := by decide +kernel
theorem dX9_undo_44 : decode cX9_undo 44 = .ok (.getfield 13, 3) := by decide +kernel
theorem dX9_undo_47 : decode cX9_undo 47 = .ok (.iconst 0, 1) := by decide +kernel
theorem dX9_undo_48 : decode cX9_undo 48 = .ok (.invokestatic 197, 3) := by decide +kernel
theorem dX9_undo_51 : decode cX9_undo 51 = .ok (.aload_n 0, 1) := by decide +kernel
theorem dX9_undo_52 : decode cX9_undo 52 = .ok (.getfield 201, 3) := by decide +kernel
theorem dX9_undo_55 : decode cX9_undo 55 = .ok (.ireturn, 1) := by decide +kernel
set_option maxRecDepth 20000 in
theorem ggX9_isAt_X9_of : GoodIn wsX9_isAt wsX9_of := goodIn_r _ [4] (by decide +kernel) (by decide +kernel)
set_option maxRecDepth 20000 in
theorem gX9_isAt_X9_of : GoodIn wsX9_isAt (va_wsS RX9 45 yX9_of wsX9_of) := goodIn_app (goodIn_of _ (by decide +kernel)) ggX9_isAt_X9_of
theorem dX9_isAt_0 : decode cX9_isAt 0 = .ok (.aload_n 0, 1) := by decide +kernel
theorem dX9_isAt_1 : decode cX9_isAt 1 = .ok (.iload_n 1, 1) := by decide +kernel
theorem dX9_isAt_2 : decode cX9_isAt 2 = .ok (.iconst 2, 1) := by decide +kernel
theorem dX9_isAt_3 : decode cX9_isAt 3 = .ok (.invokestatic 45, 3) := by decide +kernel
theorem dX9_isAt_6 : decode cX9_isAt 6 = .ok (.iload_n 2, 1) := by decide +kernel
theorem dX9_isAt_7 : decode cX9_isAt 7 = .ok (.if_icmp .ne 17, 3) := by decide +kernel
theorem dX9_isAt_10 : decode cX9_isAt 10 = .ok (.aload_n 0, 1) := by decide +kernel
theorem dX9_isAt_11 : decode cX9_isAt 11 = .ok (.iload_n 1, 1) := by decide +kernel
theorem dX9_isAt_12 : decode cX9_isAt 12 = .ok (.iconst 0, 1) := by decide +kernel
theorem dX9_isAt_13 : decode cX9_isAt 13 = .ok (.invokestatic 45, 3) := by decide +kernel
theorem dX9_isAt_16 : decode cX9_isAt 16 = .ok (.iload_n 3, 1) := by decide +kernel
theorem dX9_isAt_17 : decode cX9_isAt 17 = .ok (.if_icmp .ne 7, 3) := by decide +kernel
theorem dX9_isAt_20 : decode cX9_isAt 20 = .ok (.iconst 1, 1) := by decide +kernel
theorem dX9_isAt_21 : decode cX9_isAt 21 = .ok (.goto 4, 3) := by decide +kernel
theorem dX9_isAt_24 : decode cX9_isAt 24 = .ok (.iconst 0, 1) := by decide +kernel
theorem dX9_isAt_25 : decode cX9_isAt 25 = .ok (.ireturn, 1) := by decide +kernel
set_option maxRecDepth 20000 in
theorem ggX9_completeOn_X9_isAt : GoodIn wsX9_completeOn wsX9_isAt := goodIn_r _ [4, 5, 6, 3, 7] (by decide +kernel) (by decide +kernel)
set_option maxRecDepth 20000 in
theorem gX9_completeOn_X9_isAt : GoodIn wsX9_completeOn (va_wsS RX9 229 yX9_isAt wsX9_isAt) := goodIn_app (goodIn_of _ (by decide +kernel)) ggX9_completeOn_X9_isAt
set_option maxRecDepth 20000 in
theorem ggX9_completeOn_X9_of : GoodIn wsX9_completeOn wsX9_of := goodIn_r _ [7] (by decide +kernel) (by decide +kernel)
set_option maxRecDepth 20000 in
theorem gX9_completeOn_X9_of : GoodIn wsX9_completeOn (va_wsS RX9 45 yX9_of wsX9_of) := goodIn_app (goodIn_of _ (by decide +kernel)) ggX9_completeOn_X9_of
theorem dX9_completeOn_0 : decode cX9_completeOn 0 = .ok (.bipush 16, 2) := by decide +kernel
theorem dX9_completeOn_2 : decode cX9_completeOn 2 = .ok (.istore_n 3, 1) := by decide +kernel
theorem dX9_completeOn_3 : decode cX9_completeOn 3 = .ok (.iconst 0, 1) := by decide +kernel
theorem dX9_completeOn_4 : decode cX9_completeOn 4 = .ok (.istore 4, 2) := by decide +kernel
theorem dX9_completeOn_6 : decode cX9_completeOn 6 = .ok (.iload 4, 2) := by decide +kernel
theorem dX9_completeOn_8 : decode cX9_completeOn 8 = .ok (.iconst 3, 1) := by decide +kernel
theorem dX9_completeOn_9 : decode cX9_completeOn 9 = .ok (.if_icmp .gt 85, 3) := by decide +kernel
theorem dX9_completeOn_12 : decode cX9_completeOn 12 = .ok (.iconst 0, 1) := by decide +kernel
theorem dX9_completeOn_13 : decode cX9_completeOn 13 = .ok (.istore 5, 2) := by decide +kernel
theorem dX9_completeOn_15 : decode cX9_completeOn 15 = .ok (.iconst 0, 1) := by decide +kernel
theorem dX9_completeOn_16 : decode cX9_completeOn 16 = .ok (.istore 6, 2) := by decide +kernel
theorem dX9_completeOn_18 : decode cX9_completeOn 18 = .ok (.iload 6, 2) := by decide +kernel
theorem dX9_completeOn_20 : decode cX9_completeOn 20 = .ok (.aload_n 0, 1) := by decide +kernel
theorem dX9_completeOn_21 : decode cX9_completeOn 21 = .ok (.iconst 1, 1) := by decide +kernel
theorem dX9_completeOn_22 : decode cX9_completeOn 22 = .ok (.iaload, 1) := by decide +kernel
theorem dX9_completeOn_23 : decode cX9_completeOn 23 = .ok (.if_icmp .ge 52, 3) := by decide +kernel
theorem dX9_completeOn_26 : decode cX9_completeOn 26 = .ok (.iload 5, 2) := by decide +kernel
theorem dX9_completeOn_28 : decode cX9_completeOn 28 = .ok (.aload_n 0, 1) := by decide +kernel
theorem dX9_completeOn_29 : decode cX9_completeOn 29 = .ok (.iload 6, 2) := by decide +kernel
theorem dX9_completeOn_31 : decode cX9_completeOn 31 = .ok (.iload_n 1, 1) := by decide +kernel
theorem dX9_completeOn_32 : decode cX9_completeOn 32 = .ok (.iload_n 2, 1) := by decide +kernel
theorem dX9_completeOn_33 : decode cX9_completeOn 33 = .ok (.invokestatic 229, 3) := by decide +kernel
theorem dX9_completeOn_36 : decode cX9_completeOn 36 = .ok (.ifCond .eq 29, 3) := by decide +kernel
theorem dX9_completeOn_39 : decode cX9_completeOn 39 = .ok (.iload 4, 2) := by decide +kernel
theorem dX9_completeOn_41 : decode cX9_completeOn 41 = .ok (.iconst 3, 1) := by decide +kernel
theorem dX9_completeOn_42 : decode cX9_completeOn 42 = .ok (.if_icmp .eq 19, 3) := by decide +kernel
theorem dX9_completeOn_45 : decode cX9_completeOn 45 = .ok (.aload_n 0, 1) := by decide +kernel
theorem dX9_completeOn_46 : decode cX9_completeOn 46 = .ok (.iload 6, 2) := by decide +kernel
theorem dX9_completeOn_48 : decode cX9_completeOn 48 = .ok (.iconst 3, 1) := by decide +kernel
theorem dX9_completeOn_49 : decode cX9_completeOn 49 = .ok (.invokestatic 45, 3) := by decide +kernel
theorem dX9_completeOn_52 : decode cX9_completeOn 52 = .ok (.iload 4, 2) := by decide +kernel
theorem dX9_completeOn_54 : decode cX9_completeOn 54 = .ok (.ishr, 1) := by decide +kernel
theorem dX9_completeOn_55 : decode cX9_completeOn 55 = .ok (.iconst 1, 1) := by decide +kernel
theorem dX9_completeOn_56 : decode cX9_completeOn 56 = .ok (.iand, 1) := by decide +kernel
theorem dX9_completeOn_57 : decode cX9_completeOn 57 = .ok (.iconst 1, 1) := by decide +kernel
theorem dX9_completeOn_58 : decode cX9_completeOn 58 = .ok (.if_icmp .ne 7, 3) := by decide +kernel
theorem dX9_completeOn_61 : decode cX9_completeOn 61 = .ok (.iconst 1, 1) := by decide +kernel
theorem dX9_completeOn_62 : decode cX9_completeOn 62 = .ok (.goto 4, 3) := by decide +kernel
theorem dX9_completeOn_65 : decode cX9_completeOn 65 = .ok (.iconst 0, 1) := by decide +kernel
theorem dX9_completeOn_66 : decode cX9_completeOn 66 = .ok (.iadd, 1) := by decide +kernel
theorem dX9_completeOn_67 : decode cX9_completeOn 67 = .ok (.istore 5, 2) := by decide +kernel
theorem dX9_completeOn_69 : decode cX9_completeOn 69 = .ok (.iinc 6 1, 3) := by decide +kernel
theorem dX9_completeOn_72 : decode cX9_completeOn 72 = .ok (.goto (-54), 3) := by decide +kernel
theorem dX9_completeOn_75 : decode cX9_completeOn 75 = .ok (.iload 5, 2) := by decide +kernel
theorem dX9_completeOn_77 : decode cX9_completeOn 77 = .ok (.iload_n 3, 1) := by decide +kernel
theorem dX9_completeOn_78 : decode cX9_completeOn 78 = .ok (.if_icmp .ge 8, 3) := by decide +kernel
theorem dX9_completeOn_81 : decode cX9_completeOn 81 = .ok (.iload 5, 2) := by decide +kernel
theorem dX9_completeOn_83 : decode cX9_completeOn 83 = .ok (.goto 4, 3) := by decide +kernel
theorem dX9_completeOn_86 : decode cX9_completeOn 86 = .ok (.iload_n 3, 1) := by decide +kernel
theorem dX9_completeOn_87 : decode cX9_completeOn 87 = .ok (.istore_n 3, 1) := by decide +kernel
theorem dX9_completeOn_88 : decode cX9_completeOn 88 = .ok (.iinc 4 1, 3) := by decide +kernel
theorem dX9_completeOn_91 : decode cX9_completeOn 91 = .ok (.goto (-85), 3) := by decide +kernel
theorem dX9_completeOn_94 : decode cX9_completeOn 94 = .ok (.iload_n 3, 1) := by decide +kernel
theorem dX9_completeOn_95 : decode cX9_completeOn 95 = .ok (.ireturn, 1) := by decide +kernel
set_option maxRecDepth 20000 in
theorem ggX9_complete_X9_isHolder : GoodIn wsX9_complete wsX9_isHolder := goodIn_r _ [5, 6, 7, 8, 4, 9] (by decide +kernel) (by decide +kernel)
set_option maxRecDepth 20000 in
theorem gX9_complete_X9_isHolder : GoodIn wsX9_complete (va_wsS RX9 60 yX9_isHolder wsX9_isHolder) := goodIn_app (goodIn_of _ (by decide +kernel)) ggX9_complete_X9_isHolder
set_option maxRecDepth 20000 in
theorem ggX9_complete_X9_isKind : GoodIn wsX9_complete wsX9_isKind := goodIn_r _ [12, 13, 7, 8, 4, 9] (by decide +kernel) (by decide +kernel)
set_option maxRecDepth 20000 in
theorem gX9_complete_X9_isKind : GoodIn wsX9_complete (va_wsS RX9 56 yX9_isKind wsX9_isKind) := goodIn_app (goodIn_of _ (by decide +kernel)) ggX9_complete_X9_isKind
set_option maxRecDepth 20000 in
theorem ggX9_complete_X9_refused : GoodIn wsX9_complete wsX9_refused := goodIn_r _ [17, 18, 28, 29, 30, 31, 32, 33, 34, 35, 36, 37, 38] (by decide +kernel) (by decide +kernel)
set_option maxRecDepth 20000 in
theorem gX9_complete_X9_refused : GoodIn wsX9_complete (wsV RX9 116 RX9 yX9_refused wsX9_refused) := goodIn_app (goodIn_of _ (by decide +kernel)) ggX9_complete_X9_refused
set_option maxRecDepth 20000 in
theorem ggX9_complete_X9_completeOn : GoodIn wsX9_complete wsX9_completeOn := goodIn_r _ [21, 22, 23, 4, 24, 25, 26, 27] (by decide +kernel) (by decide +kernel)
set_option maxRecDepth 20000 in
theorem gX9_complete_X9_completeOn : GoodIn wsX9_complete (va_wsS RX9 233 yX9_completeOn wsX9_completeOn) := goodIn_app (goodIn_of _ (by decide +kernel)) ggX9_complete_X9_completeOn
theorem dX9_complete_0 : decode cX9_complete 0 = .ok (.aload_n 0, 1) := by decide +kernel
theorem dX9_complete_1 : decode cX9_complete 1 = .ok (.iload_n 1, 1) := by decide +kernel
theorem dX9_complete_2 : decode cX9_complete 2 = .ok (.invokestatic 60, 3) := by decide +kernel
theorem dX9_complete_5 : decode cX9_complete 5 = .ok (.ifCond .eq 14, 3) := by decide +kernel
theorem dX9_complete_8 : decode cX9_complete 8 = .ok (.iload_n 2, 1) := by decide +kernel
theorem dX9_complete_9 : decode cX9_complete 9 = .ok (.invokestatic 56, 3) := by decide +kernel
theorem dX9_complete_12 : decode cX9_complete 12 = .ok (.ifCond .eq 7, 3) := by decide +kernel
theorem dX9_complete_15 : decode cX9_complete 15 = .ok (.iconst 0, 1) := by decide +kernel
theorem dX9_complete_16 : decode cX9_complete 16 = .ok (.goto 4, 3) := by decide +kernel
theorem dX9_complete_19 : decode cX9_complete 19 = .ok (.iconst 1, 1) := by decide +kernel
theorem dX9_complete_20 : decode cX9_complete 20 = .ok (.invokevirtual 116, 3) := by decide +kernel
theorem dX9_complete_23 : decode cX9_complete 23 = .ok (.ifCond .eq 5, 3) := by decide +kernel
theorem dX9_complete_26 : decode cX9_complete 26 = .ok (.iconst 0, 1) := by decide +kernel
theorem dX9_complete_27 : decode cX9_complete 27 = .ok (.ireturn, 1) := by decide +kernel
theorem dX9_complete_28 : decode cX9_complete 28 = .ok (.aload_n 0, 1) := by decide +kernel
theorem dX9_complete_29 : decode cX9_complete 29 = .ok (.getfield 13, 3) := by decide +kernel
theorem dX9_complete_32 : decode cX9_complete 32 = .ok (.iload_n 1, 1) := by decide +kernel
theorem dX9_complete_33 : decode cX9_complete 33 = .ok (.iload_n 2, 1) := by decide +kernel
theorem dX9_complete_34 : decode cX9_complete 34 = .ok (.invokestatic 233, 3) := by decide +kernel
theorem dX9_complete_37 : decode cX9_complete 37 = .ok (.ireturn, 1) := by decide +kernel
set_option maxRecDepth 20000 in
theorem ggX9_takings_X9_isHolder : GoodIn wsX9_takings wsX9_isHolder := goodIn_r _ [5, 6, 7, 8, 4, 9] (by decide +kernel) (by decide +kernel)
set_option maxRecDepth 20000 in
theorem gX9_takings_X9_isHolder : GoodIn wsX9_takings (va_wsS RX9 60 yX9_isHolder wsX9_isHolder) := goodIn_app (goodIn_of _ (by decide +kernel)) ggX9_takings_X9_isHolder
set_option maxRecDepth 20000 in
theorem ggX9_takings_X9_isKind : GoodIn wsX9_takings wsX9_isKind := goodIn_r _ [12, 13, 7, 8, 4, 9] (by decide +kernel) (by decide +kernel)
set_option maxRecDepth 20000 in
theorem gX9_takings_X9_isKind : GoodIn wsX9_takings (va_wsS RX9 56 yX9_isKind wsX9_isKind) := goodIn_app (goodIn_of _ (by decide +kernel)) ggX9_takings_X9_isKind
set_option maxRecDepth 20000 in
theorem ggX9_takings_X9_refused : GoodIn wsX9_takings wsX9_refused := goodIn_r _ [17, 18, 31, 32, 33, 34, 35, 36, 37, 38, 39, 40, 41] (by decide +kernel) (by decide +kernel)
set_option maxRecDepth 20000 in
theorem gX9_takings_X9_refused : GoodIn wsX9_takings (wsV RX9 116 RX9 yX9_refused wsX9_refused) := goodIn_app (goodIn_of _ (by decide +kernel)) ggX9_takings_X9_refused
set_option maxRecDepth 20000 in
theorem ggX9_takings_X9_completeOn : GoodIn wsX9_takings wsX9_completeOn := goodIn_r _ [21, 22, 23, 4, 24, 25, 26, 27] (by decide +kernel) (by decide +kernel)
set_option maxRecDepth 20000 in
theorem gX9_takings_X9_completeOn : GoodIn wsX9_takings (va_wsS RX9 233 yX9_completeOn wsX9_completeOn) := goodIn_app (goodIn_of _ (by decide +kernel)) ggX9_takings_X9_completeOn
set_option maxRecDepth 20000 in
theorem ggX9_takings_X9_isAt : GoodIn wsX9_takings wsX9_isAt := goodIn_r _ [24, 25, 26, 4, 27] (by decide +kernel) (by decide +kernel)
set_option maxRecDepth 20000 in
theorem gX9_takings_X9_isAt : GoodIn wsX9_takings (va_wsS RX9 229 yX9_isAt wsX9_isAt) := goodIn_app (goodIn_of _ (by decide +kernel)) ggX9_takings_X9_isAt
set_option maxRecDepth 20000 in
theorem ggX9_takings_X9_missing : GoodIn wsX9_takings wsX9_missing := goodIn_r _ [30, 25, 26, 4, 27] (by decide +kernel) (by decide +kernel)
set_option maxRecDepth 20000 in
theorem gX9_takings_X9_missing : GoodIn wsX9_takings (va_wsS RX9 86 yX9_missing wsX9_missing) := goodIn_app (goodIn_of _ (by decide +kernel)) ggX9_takings_X9_missing
theorem dX9_takings_0 : decode cX9_takings 0 = .ok (.aload_n 0, 1) := by decide +kernel
theorem dX9_takings_1 : decode cX9_takings 1 = .ok (.iload_n 1, 1) := by decide +kernel
theorem dX9_takings_2 : decode cX9_takings 2 = .ok (.invokestatic 60, 3) := by decide +kernel
theorem dX9_takings_5 : decode cX9_takings 5 = .ok (.ifCond .eq 14, 3) := by decide +kernel
theorem dX9_takings_8 : decode cX9_takings 8 = .ok (.iload_n 2, 1) := by decide +kernel
theorem dX9_takings_9 : decode cX9_takings 9 = .ok (.invokestatic 56, 3) := by decide +kernel
theorem dX9_takings_12 : decode cX9_takings 12 = .ok (.ifCond .eq 7, 3) := by decide +kernel
theorem dX9_takings_15 : decode cX9_takings 15 = .ok (.iconst 0, 1) := by decide +kernel
theorem dX9_takings_16 : decode cX9_takings 16 = .ok (.goto 4, 3) := by decide +kernel
theorem dX9_takings_19 : decode cX9_takings 19 = .ok (.iconst 1, 1) := by decide +kernel
theorem dX9_takings_20 : decode cX9_takings 20 = .ok (.invokevirtual 116, 3) := by decide +kernel
theorem dX9_takings_23 : decode cX9_takings 23 = .ok (.ifCond .eq 5, 3) := by decide +kernel
theorem dX9_takings_26 : decode cX9_takings 26 = .ok (.iconst 0, 1) := by decide +kernel
theorem dX9_takings_27 : decode cX9_takings 27 = .ok (.ireturn, 1) := by decide +kernel
theorem dX9_takings_28 : decode cX9_takings 28 = .ok (.aload_n 0, 1) := by decide +kernel
theorem dX9_takings_29 : decode cX9_takings 29 = .ok (.getfield 13, 3) := by decide +kernel
theorem dX9_takings_32 : decode cX9_takings 32 = .ok (.iload_n 1, 1) := by decide +kernel
theorem dX9_takings_33 : decode cX9_takings 33 = .ok (.iload_n 2, 1) := by decide +kernel
theorem dX9_takings_34 : decode cX9_takings 34 = .ok (.invokestatic 233, 3) := by decide +kernel
theorem dX9_takings_37 : decode cX9_takings 37 = .ok (.istore_n 3, 1) := by decide +kernel
theorem dX9_takings_38 : decode cX9_takings 38 = .ok (.iconst 0, 1) := by decide +kernel
theorem dX9_takings_39 : decode cX9_takings 39 = .ok (.istore 4, 2) := by decide +kernel
theorem dX9_takings_41 : decode cX9_takings 41 = .ok (.iconst 0, 1) := by decide +kernel
theorem dX9_takings_42 : decode cX9_takings 42 = .ok (.istore 5, 2) := by decide +kernel
theorem dX9_takings_44 : decode cX9_takings 44 = .ok (.iload 5, 2) := by decide +kernel
theorem dX9_takings_46 : decode cX9_takings 46 = .ok (.iconst 3, 1) := by decide +kernel
theorem dX9_takings_47 : decode cX9_takings 47 = .ok (.if_icmp .gt 71, 3) := by decide +kernel
theorem dX9_takings_50 : decode cX9_takings 50 = .ok (.iconst 0, 1) := by decide +kernel
theorem dX9_takings_51 : decode cX9_takings 51 = .ok (.istore 6, 2) := by decide +kernel
theorem dX9_takings_53 : decode cX9_takings 53 = .ok (.iload 6, 2) := by decide +kernel
theorem dX9_takings_55 : decode cX9_takings 55 = .ok (.aload_n 0, 1) := by decide +kernel
theorem dX9_takings_56 : decode cX9_takings 56 = .ok (.getfield 13, 3) := by decide +kernel
theorem dX9_takings_59 : decode cX9_takings 59 = .ok (.iconst 1, 1) := by decide +kernel
theorem dX9_takings_60 : decode cX9_takings 60 = .ok (.iaload, 1) := by decide +kernel
theorem dX9_takings_61 : decode cX9_takings 61 = .ok (.if_icmp .ge 51, 3) := by decide +kernel
theorem dX9_takings_64 : decode cX9_takings 64 = .ok (.iload_n 3, 1) := by decide +kernel
theorem dX9_takings_65 : decode cX9_takings 65 = .ok (.ifCond .le 41, 3) := by decide +kernel
theorem dX9_takings_68 : decode cX9_takings 68 = .ok (.aload_n 0, 1) := by decide +kernel
theorem dX9_takings_69 : decode cX9_takings 69 = .ok (.getfield 13, 3) := by decide +kernel
theorem dX9_takings_72 : decode cX9_takings 72 = .ok (.iload 6, 2) := by decide +kernel
theorem dX9_takings_74 : decode cX9_takings 74 = .ok (.iload_n 1, 1) := by decide +kernel
theorem dX9_takings_75 : decode cX9_takings 75 = .ok (.iload_n 2, 1) := by decide +kernel
theorem dX9_takings_76 : decode cX9_takings 76 = .ok (.invokestatic 229, 3) := by decide +kernel
theorem dX9_takings_79 : decode cX9_takings 79 = .ok (.ifCond .eq 27, 3) := by decide +kernel
theorem dX9_takings_82 : decode cX9_takings 82 = .ok (.aload_n 0, 1) := by decide +kernel
theorem dX9_takings_83 : decode cX9_takings 83 = .ok (.getfield 13, 3) := by decide +kernel
theorem dX9_takings_86 : decode cX9_takings 86 = .ok (.iload 6, 2) := by decide +kernel
theorem dX9_takings_88 : decode cX9_takings 88 = .ok (.invokestatic 86, 3) := by decide +kernel
theorem dX9_takings_91 : decode cX9_takings 91 = .ok (.iload 5, 2) := by decide +kernel
theorem dX9_takings_93 : decode cX9_takings 93 = .ok (.if_icmp .ne 13, 3) := by decide +kernel
theorem dX9_takings_96 : decode cX9_takings 96 = .ok (.iload 4, 2) := by decide +kernel
theorem dX9_takings_98 : decode cX9_takings 98 = .ok (.iload 5, 2) := by decide +kernel
theorem dX9_takings_100 : decode cX9_takings 100 = .ok (.iadd, 1) := by decide +kernel
theorem dX9_takings_101 : decode cX9_takings 101 = .ok (.istore 4, 2) := by decide +kernel
theorem dX9_takings_103 : decode cX9_takings 103 = .ok (.iinc 3 (-1), 3) := by decide +kernel
theorem dX9_takings_106 : decode cX9_takings 106 = .ok (.iinc 6 1, 3) := by decide +kernel
theorem dX9_takings_109 : decode cX9_takings 109 = .ok (.goto (-56), 3) := by decide +kernel
theorem dX9_takings_112 : decode cX9_takings 112 = .ok (.iinc 5 1, 3) := by decide +kernel
theorem dX9_takings_115 : decode cX9_takings 115 = .ok (.goto (-71), 3) := by decide +kernel
theorem dX9_takings_118 : decode cX9_takings 118 = .ok (.iload 4, 2) := by decide +kernel
theorem dX9_takings_120 : decode cX9_takings 120 = .ok (.ireturn, 1) := by decide +kernel
set_option maxRecDepth 20000 in
theorem ggX9_bill_X9_isHolder : GoodIn wsX9_bill wsX9_isHolder := goodIn_r _ [6, 7, 8, 9, 5, 10] (by decide +kernel) (by decide +kernel)
set_option maxRecDepth 20000 in
theorem gX9_bill_X9_isHolder : GoodIn wsX9_bill (va_wsS RX9 60 yX9_isHolder wsX9_isHolder) := goodIn_app (goodIn_of _ (by decide +kernel)) ggX9_bill_X9_isHolder
set_option maxRecDepth 20000 in
theorem ggX9_bill_X9_in : GoodIn wsX9_bill wsX9_in := goodIn_r _ [10] (by decide +kernel) (by decide +kernel)
set_option maxRecDepth 20000 in
theorem gX9_bill_X9_in : GoodIn wsX9_bill (va_wsS RX9 37 yX9_in wsX9_in) := goodIn_app (goodIn_of _ (by decide +kernel)) ggX9_bill_X9_in
set_option maxRecDepth 20000 in
theorem ggX9_bill_X9_refused : GoodIn wsX9_bill wsX9_refused := goodIn_r _ [14, 15, 28, 29, 30, 31, 32, 33, 34, 35, 36, 37, 38] (by decide +kernel) (by decide +kernel)
set_option maxRecDepth 20000 in
theorem gX9_bill_X9_refused : GoodIn wsX9_bill (wsV RX9 116 RX9 yX9_refused wsX9_refused) := goodIn_app (goodIn_of _ (by decide +kernel)) ggX9_bill_X9_refused
set_option maxRecDepth 20000 in
theorem ggX9_bill_X9_lateOf : GoodIn wsX9_bill wsX9_lateOf := goodIn_r _ [18, 19, 20, 5, 21, 22, 23, 24, 25, 26, 27] (by decide +kernel) (by decide +kernel)
set_option maxRecDepth 20000 in
theorem gX9_bill_X9_lateOf : GoodIn wsX9_bill (va_wsS RX9 74 yX9_lateOf wsX9_lateOf) := goodIn_app (goodIn_of _ (by decide +kernel)) ggX9_bill_X9_lateOf
set_option maxRecDepth 20000 in
theorem ggX9_bill_X9_of : GoodIn wsX9_bill wsX9_of := goodIn_r _ [24] (by decide +kernel) (by decide +kernel)
set_option maxRecDepth 20000 in
theorem gX9_bill_X9_of : GoodIn wsX9_bill (va_wsS RX9 45 yX9_of wsX9_of) := goodIn_app (goodIn_of _ (by decide +kernel)) ggX9_bill_X9_of
theorem dX9_bill_0 : decode cX9_bill 0 = .ok (.aload_n 0, 1) := by decide +kernel
theorem dX9_bill_1 : decode cX9_bill 1 = .ok (.iload_n 1, 1) := by decide +kernel
theorem dX9_bill_2 : decode cX9_bill 2 = .ok (.invokestatic 60, 3) := by decide +kernel
theorem dX9_bill_5 : decode cX9_bill 5 = .ok (.ifCond .ne 7, 3) := by decide +kernel
theorem dX9_bill_8 : decode cX9_bill 8 = .ok (.iconst 1, 1) := by decide +kernel
theorem dX9_bill_9 : decode cX9_bill 9 = .ok (.goto 20, 3) := by decide +kernel
theorem dX9_bill_12 : decode cX9_bill 12 = .ok (.iload_n 2, 1) := by decide +kernel
theorem dX9_bill_13 : decode cX9_bill 13 = .ok (.i2l, 1) := by decide +kernel
theorem dX9_bill_14 : decode cX9_bill 14 = .ok (.lconst 0, 1) := by decide +kernel
theorem dX9_bill_15 : decode cX9_bill 15 = .ok (.ldc2_w 173, 3) := by decide +kernel
theorem dX9_bill_18 : decode cX9_bill 18 = .ok (.invokestatic 37, 3) := by decide +kernel
theorem dX9_bill_21 : decode cX9_bill 21 = .ok (.ifCond .eq 7, 3) := by decide +kernel
theorem dX9_bill_24 : decode cX9_bill 24 = .ok (.iconst 0, 1) := by decide +kernel
theorem dX9_bill_25 : decode cX9_bill 25 = .ok (.goto 4, 3) := by decide +kernel
theorem dX9_bill_28 : decode cX9_bill 28 = .ok (.iconst 2, 1) := by decide +kernel
theorem dX9_bill_29 : decode cX9_bill 29 = .ok (.invokevirtual 116, 3) := by decide +kernel
theorem dX9_bill_32 : decode cX9_bill 32 = .ok (.ifCond .eq 5, 3) := by decide +kernel
theorem dX9_bill_35 : decode cX9_bill 35 = .ok (.iconst 0, 1) := by decide +kernel
theorem dX9_bill_36 : decode cX9_bill 36 = .ok (.ireturn, 1) := by decide +kernel
theorem dX9_bill_37 : decode cX9_bill 37 = .ok (.iconst 0, 1) := by decide +kernel
theorem dX9_bill_38 : decode cX9_bill 38 = .ok (.istore_n 3, 1) := by decide +kernel
theorem dX9_bill_39 : decode cX9_bill 39 = .ok (.iconst 0, 1) := by decide +kernel
theorem dX9_bill_40 : decode cX9_bill 40 = .ok (.istore 4, 2) := by decide +kernel
theorem dX9_bill_42 : decode cX9_bill 42 = .ok (.iload 4, 2) := by decide +kernel
theorem dX9_bill_44 : decode cX9_bill 44 = .ok (.aload_n 0, 1) := by decide +kernel
theorem dX9_bill_45 : decode cX9_bill 45 = .ok (.getfield 13, 3) := by decide +kernel
theorem dX9_bill_48 : decode cX9_bill 48 = .ok (.iconst 1, 1) := by decide +kernel
theorem dX9_bill_49 : decode cX9_bill 49 = .ok (.iaload, 1) := by decide +kernel
theorem dX9_bill_50 : decode cX9_bill 50 = .ok (.if_icmp .ge 67, 3) := by decide +kernel
theorem dX9_bill_53 : decode cX9_bill 53 = .ok (.aload_n 0, 1) := by decide +kernel
theorem dX9_bill_54 : decode cX9_bill 54 = .ok (.getfield 13, 3) := by decide +kernel
theorem dX9_bill_57 : decode cX9_bill 57 = .ok (.iload 4, 2) := by decide +kernel
theorem dX9_bill_59 : decode cX9_bill 59 = .ok (.iload_n 2, 1) := by decide +kernel
theorem dX9_bill_60 : decode cX9_bill 60 = .ok (.invokestatic 74, 3) := by decide +kernel
theorem dX9_bill_63 : decode cX9_bill 63 = .ok (.istore 5, 2) := by decide +kernel
theorem dX9_bill_65 : decode cX9_bill 65 = .ok (.iload_n 3, 1) := by decide +kernel
theorem dX9_bill_66 : decode cX9_bill 66 = .ok (.aload_n 0, 1) := by decide +kernel
theorem dX9_bill_67 : decode cX9_bill 67 = .ok (.getfield 13, 3) := by decide +kernel
theorem dX9_bill_70 : decode cX9_bill 70 = .ok (.iload 4, 2) := by decide +kernel
theorem dX9_bill_72 : decode cX9_bill 72 = .ok (.iconst 2, 1) := by decide +kernel
theorem dX9_bill_73 : decode cX9_bill 73 = .ok (.invokestatic 45, 3) := by decide +kernel
theorem dX9_bill_76 : decode cX9_bill 76 = .ok (.iload_n 1, 1) := by decide +kernel
theorem dX9_bill_77 : decode cX9_bill 77 = .ok (.if_icmp .ne 8, 3) := by decide +kernel
theorem dX9_bill_80 : decode cX9_bill 80 = .ok (.iload 5, 2) := by decide +kernel
theorem dX9_bill_82 : decode cX9_bill 82 = .ok (.goto 4, 3) := by decide +kernel
theorem dX9_bill_85 : decode cX9_bill 85 = .ok (.iconst 0, 1) := by decide +kernel
theorem dX9_bill_86 : decode cX9_bill 86 = .ok (.iadd, 1) := by decide +kernel
theorem dX9_bill_87 : decode cX9_bill 87 = .ok (.istore_n 3, 1) := by decide +kernel
theorem dX9_bill_88 : decode cX9_bill 88 = .ok (.iload_n 3, 1) := by decide +kernel
theorem dX9_bill_89 : decode cX9_bill 89 = .ok (.aload_n 0, 1) := by decide +kernel
theorem dX9_bill_90 : decode cX9_bill 90 = .ok (.getfield 13, 3) := by decide +kernel
theorem dX9_bill_93 : decode cX9_bill 93 = .ok (.iload 4, 2) := by decide +kernel
theorem dX9_bill_95 : decode cX9_bill 95 = .ok (.iconst 1, 1) := by decide +kernel
theorem dX9_bill_96 : decode cX9_bill 96 = .ok (.invokestatic 45, 3) := by decide +kernel
theorem dX9_bill_99 : decode cX9_bill 99 = .ok (.iload_n 1, 1) := by decide +kernel
theorem dX9_bill_100 : decode cX9_bill 100 = .ok (.if_icmp .ne 8, 3) := by decide +kernel
theorem dX9_bill_103 : decode cX9_bill 103 = .ok (.iload 5, 2) := by decide +kernel
theorem dX9_bill_105 : decode cX9_bill 105 = .ok (.goto 4, 3) := by decide +kernel
theorem dX9_bill_108 : decode cX9_bill 108 = .ok (.iconst 0, 1) := by decide +kernel
theorem dX9_bill_109 : decode cX9_bill 109 = .ok (.isub, 1) := by decide +kernel
theorem dX9_bill_110 : decode cX9_bill 110 = .ok (.istore_n 3, 1) := by decide +kernel
theorem dX9_bill_111 : decode cX9_bill 111 = .ok (.iinc 4 1, 3) := by decide +kernel
theorem dX9_bill_114 : decode cX9_bill 114 = .ok (.goto (-72), 3) := by decide +kernel
theorem dX9_bill_117 : decode cX9_bill 117 = .ok (.iload_n 3, 1) := by decide +kernel
theorem dX9_bill_118 : decode cX9_bill 118 = .ok (.ireturn, 1) := by decide +kernel
set_option maxRecDepth 20000 in
theorem ggX9_firstDue_X9_isFree : GoodIn wsX9_firstDue wsX9_isFree := goodIn_r _ [6, 7, 8, 5, 9] (by decide +kernel) (by decide +kernel)
set_option maxRecDepth 20000 in
theorem gX9_firstDue_X9_isFree : GoodIn wsX9_firstDue (va_wsS RX9 49 yX9_isFree wsX9_isFree) := goodIn_app (goodIn_of _ (by decide +kernel)) ggX9_firstDue_X9_isFree
set_option maxRecDepth 20000 in
theorem ggX9_firstDue_X9_of : GoodIn wsX9_firstDue wsX9_of := goodIn_r _ [9] (by decide +kernel) (by decide +kernel)
set_option maxRecDepth 20000 in
theorem gX9_firstDue_X9_of : GoodIn wsX9_firstDue (va_wsS RX9 45 yX9_of wsX9_of) := goodIn_app (goodIn_of _ (by decide +kernel)) ggX9_firstDue_X9_of
theorem dX9_firstDue_0 : decode cX9_firstDue 0 = .ok (.aload_n 0, 1) := by decide +kernel
theorem dX9_firstDue_1 : decode cX9_firstDue 1 = .ok (.iconst 0, 1) := by decide +kernel
theorem dX9_firstDue_2 : decode cX9_firstDue 2 = .ok (.putfield 33, 3) := by decide +kernel
theorem dX9_firstDue_5 : decode cX9_firstDue 5 = .ok (.iconst (-1), 1) := by decide +kernel
theorem dX9_firstDue_6 : decode cX9_firstDue 6 = .ok (.istore_n 1, 1) := by decide +kernel
theorem dX9_firstDue_7 : decode cX9_firstDue 7 = .ok (.iconst 0, 1) := by decide +kernel
theorem dX9_firstDue_8 : decode cX9_firstDue 8 = .ok (.istore_n 2, 1) := by decide +kernel
theorem dX9_firstDue_9 : decode cX9_firstDue 9 = .ok (.iload_n 2, 1) := by decide +kernel
theorem dX9_firstDue_10 : decode cX9_firstDue 10 = .ok (.aload_n 0, 1) := by decide +kernel
theorem dX9_firstDue_11 : decode cX9_firstDue 11 = .ok (.getfield 13, 3) := by decide +kernel
theorem dX9_firstDue_14 : decode cX9_firstDue 14 = .ok (.iconst 1, 1) := by decide +kernel
theorem dX9_firstDue_15 : decode cX9_firstDue 15 = .ok (.iaload, 1) := by decide +kernel
theorem dX9_firstDue_16 : decode cX9_firstDue 16 = .ok (.if_icmp .ge 62, 3) := by decide +kernel
theorem dX9_firstDue_19 : decode cX9_firstDue 19 = .ok (.aload_n 0, 1) := by decide +kernel
theorem dX9_firstDue_20 : decode cX9_firstDue 20 = .ok (.getfield 13, 3) := by decide +kernel
theorem dX9_firstDue_23 : decode cX9_firstDue 23 = .ok (.iload_n 2, 1) := by decide +kernel
theorem dX9_firstDue_24 : decode cX9_firstDue 24 = .ok (.invokestatic 49, 3) := by decide +kernel
theorem dX9_firstDue_27 : decode cX9_firstDue 27 = .ok (.ifCond .ne 7, 3) := by decide +kernel
theorem dX9_firstDue_30 : decode cX9_firstDue 30 = .ok (.iconst 1, 1) := by decide +kernel
theorem dX9_firstDue_31 : decode cX9_firstDue 31 = .ok (.goto 4, 3) := by decide +kernel
theorem dX9_firstDue_34 : decode cX9_firstDue 34 = .ok (.iconst 0, 1) := by decide +kernel
theorem dX9_firstDue_35 : decode cX9_firstDue 35 = .ok (.istore_n 3, 1) := by decide +kernel
theorem dX9_firstDue_36 : decode cX9_firstDue 36 = .ok (.iload_n 3, 1) := by decide +kernel
theorem dX9_firstDue_37 : decode cX9_firstDue 37 = .ok (.ifCond .eq 33, 3) := by decide +kernel
theorem dX9_firstDue_40 : decode cX9_firstDue 40 = .ok (.iload_n 1, 1) := by decide +kernel
theorem dX9_firstDue_41 : decode cX9_firstDue 41 = .ok (.iconst (-1), 1) := by decide +kernel
theorem dX9_firstDue_42 : decode cX9_firstDue 42 = .ok (.if_icmp .eq 24, 3) := by decide +kernel
theorem dX9_firstDue_45 : decode cX9_firstDue 45 = .ok (.aload_n 0, 1) := by decide +kernel
theorem dX9_firstDue_46 : decode cX9_firstDue 46 = .ok (.getfield 13, 3) := by decide +kernel
theorem dX9_firstDue_49 : decode cX9_firstDue 49 = .ok (.iload_n 2, 1) := by decide +kernel
theorem dX9_firstDue_50 : decode cX9_firstDue 50 = .ok (.iconst 4, 1) := by decide +kernel
theorem dX9_firstDue_51 : decode cX9_firstDue 51 = .ok (.invokestatic 45, 3) := by decide +kernel
theorem dX9_firstDue_54 : decode cX9_firstDue 54 = .ok (.aload_n 0, 1) := by decide +kernel
theorem dX9_firstDue_55 : decode cX9_firstDue 55 = .ok (.getfield 13, 3) := by decide +kernel
theorem dX9_firstDue_58 : decode cX9_firstDue 58 = .ok (.iload_n 1, 1) := by decide +kernel
theorem dX9_firstDue_59 : decode cX9_firstDue 59 = .ok (.iconst 4, 1) := by decide +kernel
theorem dX9_firstDue_60 : decode cX9_firstDue 60 = .ok (.invokestatic 45, 3) := by decide +kernel
theorem dX9_firstDue_63 : decode cX9_firstDue 63 = .ok (.if_icmp .ge 7, 3) := by decide +kernel
theorem dX9_firstDue_66 : decode cX9_firstDue 66 = .ok (.iload_n 2, 1) := by decide +kernel
theorem dX9_firstDue_67 : decode cX9_firstDue 67 = .ok (.goto 4, 3) := by decide +kernel
theorem dX9_firstDue_70 : decode cX9_firstDue 70 = .ok (.iload_n 1, 1) := by decide +kernel
theorem dX9_firstDue_71 : decode cX9_firstDue 71 = .ok (.istore_n 1, 1) := by decide +kernel
theorem dX9_firstDue_72 : decode cX9_firstDue 72 = .ok (.iinc 2 1, 3) := by decide +kernel
theorem dX9_firstDue_75 : decode cX9_firstDue 75 = .ok (.goto (-66), 3) := by decide +kernel
theorem dX9_firstDue_78 : decode cX9_firstDue 78 = .ok (.iload_n 1, 1) := by decide +kernel
theorem dX9_firstDue_79 : decode cX9_firstDue 79 = .ok (.ireturn, 1) := by decide +kernel
set_option maxRecDepth 20000 in
theorem ggX9_cheapest_X9_isHolder : GoodIn wsX9_cheapest wsX9_isHolder := goodIn_r _ [5, 6, 7, 8, 4, 9] (by decide +kernel) (by decide +kernel)
set_option maxRecDepth 20000 in
theorem gX9_cheapest_X9_isHolder : GoodIn wsX9_cheapest (va_wsS RX9 60 yX9_isHolder wsX9_isHolder) := goodIn_app (goodIn_of _ (by decide +kernel)) ggX9_cheapest_X9_isHolder
set_option maxRecDepth 20000 in
theorem ggX9_cheapest_X9_isKind : GoodIn wsX9_cheapest wsX9_isKind := goodIn_r _ [12, 13, 7, 8, 4, 9] (by decide +kernel) (by decide +kernel)
set_option maxRecDepth 20000 in
theorem gX9_cheapest_X9_isKind : GoodIn wsX9_cheapest (va_wsS RX9 56 yX9_isKind wsX9_isKind) := goodIn_app (goodIn_of _ (by decide +kernel)) ggX9_cheapest_X9_isKind
set_option maxRecDepth 20000 in
theorem ggX9_cheapest_X9_refused : GoodIn wsX9_cheapest wsX9_refused := goodIn_r _ [17, 18, 31, 32, 33, 34, 35, 36, 37, 38, 39, 40, 41] (by decide +kernel) (by decide +kernel)
set_option maxRecDepth 20000 in
theorem gX9_cheapest_X9_refused : GoodIn wsX9_cheapest (wsV RX9 116 RX9 yX9_refused wsX9_refused) := goodIn_app (goodIn_of _ (by decide +kernel)) ggX9_cheapest_X9_refused
set_option maxRecDepth 20000 in
theorem ggX9_cheapest_X9_of : GoodIn wsX9_cheapest wsX9_of := goodIn_r _ [21] (by decide +kernel) (by decide +kernel)
set_option maxRecDepth 20000 in
theorem gX9_cheapest_X9_of : GoodIn wsX9_cheapest (va_wsS RX9 45 yX9_of wsX9_of) := goodIn_app (goodIn_of _ (by decide +kernel)) ggX9_cheapest_X9_of
set_option maxRecDepth 20000 in
theorem ggX9_cheapest_X9_isFree : GoodIn wsX9_cheapest wsX9_isFree := goodIn_r _ [24, 19, 20, 4, 21] (by decide +kernel) (by decide +kernel)
set_option maxRecDepth 20000 in
theorem gX9_cheapest_X9_isFree : GoodIn wsX9_cheapest (va_wsS RX9 49 yX9_isFree wsX9_isFree) := goodIn_app (goodIn_of _ (by decide +kernel)) ggX9_cheapest_X9_isFree
set_option maxRecDepth 20000 in
theorem ggX9_cheapest_X9_priceOf : GoodIn wsX9_cheapest wsX9_priceOf := goodIn_r _ [27, 28, 29, 4, 30, 19, 20, 21] (by decide +kernel) (by decide +kernel)
set_option maxRecDepth 20000 in
theorem gX9_cheapest_X9_priceOf : GoodIn wsX9_cheapest (va_wsS RX9 90 yX9_priceOf wsX9_priceOf) := goodIn_app (goodIn_of _ (by decide +kernel)) ggX9_cheapest_X9_priceOf
theorem dX9_cheapest_0 : decode cX9_cheapest 0 = .ok (.aload_n 0, 1) := by decide +kernel
theorem dX9_cheapest_1 : decode cX9_cheapest 1 = .ok (.iload_n 1, 1) := by decide +kernel
theorem dX9_cheapest_2 : decode cX9_cheapest 2 = .ok (.invokestatic 60, 3) := by decide +kernel
theorem dX9_cheapest_5 : decode cX9_cheapest 5 = .ok (.ifCond .eq 14, 3) := by decide +kernel
theorem dX9_cheapest_8 : decode cX9_cheapest 8 = .ok (.iload_n 2, 1) := by decide +kernel
theorem dX9_cheapest_9 : decode cX9_cheapest 9 = .ok (.invokestatic 56, 3) := by decide +kernel
theorem dX9_cheapest_12 : decode cX9_cheapest 12 = .ok (.ifCond .eq 7, 3) := by decide +kernel
theorem dX9_cheapest_15 : decode cX9_cheapest 15 = .ok (.iconst 0, 1) := by decide +kernel
theorem dX9_cheapest_16 : decode cX9_cheapest 16 = .ok (.goto 4, 3) := by decide +kernel
theorem dX9_cheapest_19 : decode cX9_cheapest 19 = .ok (.iconst 1, 1) := by decide +kernel
theorem dX9_cheapest_20 : decode cX9_cheapest 20 = .ok (.invokevirtual 116, 3) := by decide +kernel
theorem dX9_cheapest_23 : decode cX9_cheapest 23 = .ok (.ifCond .eq 5, 3) := by decide +kernel
theorem dX9_cheapest_26 : decode cX9_cheapest 26 = .ok (.iconst 0, 1) := by decide +kernel
theorem dX9_cheapest_27 : decode cX9_cheapest 27 = .ok (.ireturn, 1) := by decide +kernel
theorem dX9_cheapest_28 : decode cX9_cheapest 28 = .ok (.iconst (-1), 1) := by decide +kernel
theorem dX9_cheapest_29 : decode cX9_cheapest 29 = .ok (.istore_n 3, 1) := by decide +kernel
theorem dX9_cheapest_30 : decode cX9_cheapest 30 = .ok (.iconst 0, 1) := by decide +kernel
theorem dX9_cheapest_31 : decode cX9_cheapest 31 = .ok (.istore 4, 2) := by decide +kernel
theorem dX9_cheapest_33 : decode cX9_cheapest 33 = .ok (.iload 4, 2) := by decide +kernel
theorem dX9_cheapest_35 : decode cX9_cheapest 35 = .ok (.aload_n 0, 1) := by decide +kernel
theorem dX9_cheapest_36 : decode cX9_cheapest 36 = .ok (.getfield 13, 3) := by decide +kernel
theorem dX9_cheapest_39 : decode cX9_cheapest 39 = .ok (.iconst 1, 1) := by decide +kernel
theorem dX9_cheapest_40 : decode cX9_cheapest 40 = .ok (.iaload, 1) := by decide +kernel
theorem dX9_cheapest_41 : decode cX9_cheapest 41 = .ok (.if_icmp .ge 98, 3) := by decide +kernel
theorem dX9_cheapest_44 : decode cX9_cheapest 44 = .ok (.iload_n 1, 1) := by decide +kernel
theorem dX9_cheapest_45 : decode cX9_cheapest 45 = .ok (.iconst 4, 1) := by decide +kernel
theorem dX9_cheapest_46 : decode cX9_cheapest 46 = .ok (.if_icmp .eq 93, 3) := by decide +kernel
theorem dX9_cheapest_49 : decode cX9_cheapest 49 = .ok (.aload_n 0, 1) := by decide +kernel
theorem dX9_cheapest_50 : decode cX9_cheapest 50 = .ok (.getfield 13, 3) := by decide +kernel
theorem dX9_cheapest_53 : decode cX9_cheapest 53 = .ok (.iload 4, 2) := by decide +kernel
theorem dX9_cheapest_55 : decode cX9_cheapest 55 = .ok (.iconst 1, 1) := by decide +kernel
theorem dX9_cheapest_56 : decode cX9_cheapest 56 = .ok (.invokestatic 45, 3) := by decide +kernel
