theorem dX9_cheapest_59 : decode cX9_cheapest 59 = .ok (.iload_n 1, 1) := by decide +kernel
theorem dX9_cheapest_60 : decode cX9_cheapest 60 = .ok (.if_icmp .ne 33, 3) := by decide +kernel
theorem dX9_cheapest_63 : decode cX9_cheapest 63 = .ok (.aload_n 0, 1) := by decide +kernel
theorem dX9_cheapest_64 : decode cX9_cheapest 64 = .ok (.getfield 13, 3) := by decide +kernel
theorem dX9_cheapest_67 : decode cX9_cheapest 67 = .ok (.iload 4, 2) := by decide +kernel
theorem dX9_cheapest_69 : decode cX9_cheapest 69 = .ok (.invokestatic 49, 3) := by decide +kernel
theorem dX9_cheapest_72 : decode cX9_cheapest 72 = .ok (.ifCond .eq 21, 3) := by decide +kernel
theorem dX9_cheapest_75 : decode cX9_cheapest 75 = .ok (.aload_n 0, 1) := by decide +kernel
theorem dX9_cheapest_76 : decode cX9_cheapest 76 = .ok (.getfield 13, 3) := by decide +kernel
theorem dX9_cheapest_79 : decode cX9_cheapest 79 = .ok (.iload 4, 2) := by decide +kernel
theorem dX9_cheapest_81 : decode cX9_cheapest 81 = .ok (.iconst 0, 1) := by decide +kernel
theorem dX9_cheapest_82 : decode cX9_cheapest 82 = .ok (.invokestatic 45, 3) := by decide +kernel
theorem dX9_cheapest_85 : decode cX9_cheapest 85 = .ok (.iload_n 2, 1) := by decide +kernel
theorem dX9_cheapest_86 : decode cX9_cheapest 86 = .ok (.if_icmp .ne 7, 3) := by decide +kernel
theorem dX9_cheapest_89 : decode cX9_cheapest 89 = .ok (.iconst 1, 1) := by decide +kernel
theorem dX9_cheapest_90 : decode cX9_cheapest 90 = .ok (.goto 4, 3) := by decide +kernel
theorem dX9_cheapest_93 : decode cX9_cheapest 93 = .ok (.iconst 0, 1) := by decide +kernel
theorem dX9_cheapest_94 : decode cX9_cheapest 94 = .ok (.istore 5, 2) := by decide +kernel
theorem dX9_cheapest_96 : decode cX9_cheapest 96 = .ok (.iload 5, 2) := by decide +kernel
theorem dX9_cheapest_98 : decode cX9_cheapest 98 = .ok (.ifCond .eq 33, 3) := by decide +kernel
theorem dX9_cheapest_101 : decode cX9_cheapest 101 = .ok (.iload_n 3, 1) := by decide +kernel
theorem dX9_cheapest_102 : decode cX9_cheapest 102 = .ok (.iconst (-1), 1) := by decide +kernel
theorem dX9_cheapest_103 : decode cX9_cheapest 103 = .ok (.if_icmp .eq 23, 3) := by decide +kernel
theorem dX9_cheapest_106 : decode cX9_cheapest 106 = .ok (.aload_n 0, 1) := by decide +kernel
theorem dX9_cheapest_107 : decode cX9_cheapest 107 = .ok (.getfield 13, 3) := by decide +kernel
theorem dX9_cheapest_110 : decode cX9_cheapest 110 = .ok (.iload 4, 2) := by decide +kernel
theorem dX9_cheapest_112 : decode cX9_cheapest 112 = .ok (.invokestatic 90, 3) := by decide +kernel
theorem dX9_cheapest_115 : decode cX9_cheapest 115 = .ok (.aload_n 0, 1) := by decide +kernel
theorem dX9_cheapest_116 : decode cX9_cheapest 116 = .ok (.getfield 13, 3) := by decide +kernel
theorem dX9_cheapest_119 : decode cX9_cheapest 119 = .ok (.iload_n 3, 1) := by decide +kernel
theorem dX9_cheapest_120 : decode cX9_cheapest 120 = .ok (.invokestatic 90, 3) := by decide +kernel
theorem dX9_cheapest_123 : decode cX9_cheapest 123 = .ok (.if_icmp .ge 8, 3) := by decide +kernel
theorem dX9_cheapest_126 : decode cX9_cheapest 126 = .ok (.iload 4, 2) := by decide +kernel
theorem dX9_cheapest_128 : decode cX9_cheapest 128 = .ok (.goto 4, 3) := by decide +kernel
theorem dX9_cheapest_131 : decode cX9_cheapest 131 = .ok (.iload_n 3, 1) := by decide +kernel
theorem dX9_cheapest_132 : decode cX9_cheapest 132 = .ok (.istore_n 3, 1) := by decide +kernel
theorem dX9_cheapest_133 : decode cX9_cheapest 133 = .ok (.iinc 4 1, 3) := by decide +kernel
theorem dX9_cheapest_136 : decode cX9_cheapest 136 = .ok (.goto (-103), 3) := by decide +kernel
theorem dX9_cheapest_139 : decode cX9_cheapest 139 = .ok (.iload_n 3, 1) := by decide +kernel
theorem dX9_cheapest_140 : decode cX9_cheapest 140 = .ok (.ireturn, 1) := by decide +kernel
set_option maxRecDepth 20000 in
theorem ggX9_inDebt_X9_copyState : GoodIn wsX9_inDebt wsX9_copyState := goodIn_r _ [7] (by decide +kernel) (by decide +kernel)
set_option maxRecDepth 20000 in
theorem gX9_inDebt_X9_copyState : GoodIn wsX9_inDebt (va_wsS RX9 197 yX9_copyState wsX9_copyState) := goodIn_app (goodIn_of _ (by decide +kernel)) ggX9_inDebt_X9_copyState
set_option maxRecDepth 20000 in
theorem ggX9_inDebt_X9_isFree : GoodIn wsX9_inDebt wsX9_isFree := goodIn_r _ [10, 11, 12, 6, 13] (by decide +kernel) (by decide +kernel)
set_option maxRecDepth 20000 in
theorem gX9_inDebt_X9_isFree : GoodIn wsX9_inDebt (va_wsS RX9 49 yX9_isFree wsX9_isFree) := goodIn_app (goodIn_of _ (by decide +kernel)) ggX9_inDebt_X9_isFree
set_option maxRecDepth 20000 in
theorem ggX9_inDebt_X9_bringOn : GoodIn wsX9_inDebt wsX9_bringOn := goodIn_r _ [16, 17, 18, 6, 19, 8, 9, 10, 11, 12, 13, 20, 21, 22, 23, 24, 25, 26, 27, 28] (by decide +kernel) (by decide +kernel)
set_option maxRecDepth 20000 in
theorem gX9_inDebt_X9_bringOn : GoodIn wsX9_inDebt (va_wsS RX9 140 yX9_bringOn wsX9_bringOn) := goodIn_app (goodIn_of _ (by decide +kernel)) ggX9_inDebt_X9_bringOn
set_option maxRecDepth 20000 in
theorem ggX9_inDebt_X9_partsOwed : GoodIn wsX9_inDebt wsX9_partsOwed := goodIn_r _ [31, 32, 33, 6, 34] (by decide +kernel) (by decide +kernel)
set_option maxRecDepth 20000 in
theorem gX9_inDebt_X9_partsOwed : GoodIn wsX9_inDebt (va_wsS RX9 210 yX9_partsOwed wsX9_partsOwed) := goodIn_app (goodIn_of _ (by decide +kernel)) ggX9_inDebt_X9_partsOwed
theorem dX9_inDebt_0 : decode cX9_inDebt 0 = .ok (.aload_n 0, 1) := by decide +kernel
theorem dX9_inDebt_1 : decode cX9_inDebt 1 = .ok (.iconst 0, 1) := by decide +kernel
theorem dX9_inDebt_2 : decode cX9_inDebt 2 = .ok (.putfield 33, 3) := by decide +kernel
theorem dX9_inDebt_5 : decode cX9_inDebt 5 = .ok (.aload_n 0, 1) := by decide +kernel
theorem dX9_inDebt_6 : decode cX9_inDebt 6 = .ok (.getfield 13, 3) := by decide +kernel
theorem dX9_inDebt_9 : decode cX9_inDebt 9 = .ok (.iconst 0, 1) := by decide +kernel
theorem dX9_inDebt_10 : decode cX9_inDebt 10 = .ok (.aload_n 0, 1) := by decide +kernel
theorem dX9_inDebt_11 : decode cX9_inDebt 11 = .ok (.getfield 16, 3) := by decide +kernel
theorem dX9_inDebt_14 : decode cX9_inDebt 14 = .ok (.iconst 0, 1) := by decide +kernel
theorem dX9_inDebt_15 : decode cX9_inDebt 15 = .ok (.invokestatic 197, 3) := by decide +kernel
theorem dX9_inDebt_18 : decode cX9_inDebt 18 = .ok (.iconst 0, 1) := by decide +kernel
theorem dX9_inDebt_19 : decode cX9_inDebt 19 = .ok (.istore_n 1, 1) := by decide +kernel
theorem dX9_inDebt_20 : decode cX9_inDebt 20 = .ok (.iload_n 1, 1) := by decide +kernel
theorem dX9_inDebt_21 : decode cX9_inDebt 21 = .ok (.aload_n 0, 1) := by decide +kernel
theorem dX9_inDebt_22 : decode cX9_inDebt 22 = .ok (.getfield 16, 3) := by decide +kernel
theorem dX9_inDebt_25 : decode cX9_inDebt 25 = .ok (.iconst 1, 1) := by decide +kernel
theorem dX9_inDebt_26 : decode cX9_inDebt 26 = .ok (.iaload, 1) := by decide +kernel
theorem dX9_inDebt_27 : decode cX9_inDebt 27 = .ok (.if_icmp .ge 29, 3) := by decide +kernel
theorem dX9_inDebt_30 : decode cX9_inDebt 30 = .ok (.aload_n 0, 1) := by decide +kernel
theorem dX9_inDebt_31 : decode cX9_inDebt 31 = .ok (.getfield 16, 3) := by decide +kernel
theorem dX9_inDebt_34 : decode cX9_inDebt 34 = .ok (.iload_n 1, 1) := by decide +kernel
theorem dX9_inDebt_35 : decode cX9_inDebt 35 = .ok (.invokestatic 49, 3) := by decide +kernel
theorem dX9_inDebt_38 : decode cX9_inDebt 38 = .ok (.ifCond .ne 12, 3) := by decide +kernel
theorem dX9_inDebt_41 : decode cX9_inDebt 41 = .ok (.aload_n 0, 1) := by decide +kernel
theorem dX9_inDebt_42 : decode cX9_inDebt 42 = .ok (.getfield 16, 3) := by decide +kernel
theorem dX9_inDebt_45 : decode cX9_inDebt 45 = .ok (.iload_n 1, 1) := by decide +kernel
theorem dX9_inDebt_46 : decode cX9_inDebt 46 = .ok (.invokestatic 140, 3) := by decide +kernel
theorem dX9_inDebt_49 : decode cX9_inDebt 49 = .ok (.pop, 1) := by decide +kernel
theorem dX9_inDebt_50 : decode cX9_inDebt 50 = .ok (.iinc 1 1, 3) := by decide +kernel
theorem dX9_inDebt_53 : decode cX9_inDebt 53 = .ok (.goto (-33), 3) := by decide +kernel
theorem dX9_inDebt_56 : decode cX9_inDebt 56 = .ok (.iconst 0, 1) := by decide +kernel
theorem dX9_inDebt_57 : decode cX9_inDebt 57 = .ok (.istore_n 1, 1) := by decide +kernel
theorem dX9_inDebt_58 : decode cX9_inDebt 58 = .ok (.iconst 0, 1) := by decide +kernel
theorem dX9_inDebt_59 : decode cX9_inDebt 59 = .ok (.istore_n 2, 1) := by decide +kernel
theorem dX9_inDebt_60 : decode cX9_inDebt 60 = .ok (.iload_n 2, 1) := by decide +kernel
theorem dX9_inDebt_61 : decode cX9_inDebt 61 = .ok (.iconst 5, 1) := by decide +kernel
theorem dX9_inDebt_62 : decode cX9_inDebt 62 = .ok (.if_icmp .ge 60, 3) := by decide +kernel
theorem dX9_inDebt_65 : decode cX9_inDebt 65 = .ok (.aload_n 0, 1) := by decide +kernel
theorem dX9_inDebt_66 : decode cX9_inDebt 66 = .ok (.getfield 16, 3) := by decide +kernel
theorem dX9_inDebt_69 : decode cX9_inDebt 69 = .ok (.iload_n 2, 1) := by decide +kernel
theorem dX9_inDebt_70 : decode cX9_inDebt 70 = .ok (.iconst (-1), 1) := by decide +kernel
theorem dX9_inDebt_71 : decode cX9_inDebt 71 = .ok (.invokestatic 210, 3) := by decide +kernel
theorem dX9_inDebt_74 : decode cX9_inDebt 74 = .ok (.aload_n 0, 1) := by decide +kernel
theorem dX9_inDebt_75 : decode cX9_inDebt 75 = .ok (.getfield 16, 3) := by decide +kernel
theorem dX9_inDebt_78 : decode cX9_inDebt 78 = .ok (.iconst (-1), 1) := by decide +kernel
theorem dX9_inDebt_79 : decode cX9_inDebt 79 = .ok (.iload_n 2, 1) := by decide +kernel
theorem dX9_inDebt_80 : decode cX9_inDebt 80 = .ok (.invokestatic 210, 3) := by decide +kernel
theorem dX9_inDebt_83 : decode cX9_inDebt 83 = .ok (.isub, 1) := by decide +kernel
theorem dX9_inDebt_84 : decode cX9_inDebt 84 = .ok (.istore_n 3, 1) := by decide +kernel
theorem dX9_inDebt_85 : decode cX9_inDebt 85 = .ok (.iload_n 1, 1) := by decide +kernel
theorem dX9_inDebt_86 : decode cX9_inDebt 86 = .ok (.aload_n 0, 1) := by decide +kernel
theorem dX9_inDebt_87 : decode cX9_inDebt 87 = .ok (.getfield 16, 3) := by decide +kernel
theorem dX9_inDebt_90 : decode cX9_inDebt 90 = .ok (.bipush 88, 2) := by decide +kernel
theorem dX9_inDebt_92 : decode cX9_inDebt 92 = .ok (.iload_n 2, 1) := by decide +kernel
theorem dX9_inDebt_93 : decode cX9_inDebt 93 = .ok (.iadd, 1) := by decide +kernel
theorem dX9_inDebt_94 : decode cX9_inDebt 94 = .ok (.iaload, 1) := by decide +kernel
theorem dX9_inDebt_95 : decode cX9_inDebt 95 = .ok (.iload_n 3, 1) := by decide +kernel
theorem dX9_inDebt_96 : decode cX9_inDebt 96 = .ok (.aload_n 0, 1) := by decide +kernel
theorem dX9_inDebt_97 : decode cX9_inDebt 97 = .ok (.getfield 16, 3) := by decide +kernel
theorem dX9_inDebt_100 : decode cX9_inDebt 100 = .ok (.iconst 4, 1) := by decide +kernel
theorem dX9_inDebt_101 : decode cX9_inDebt 101 = .ok (.iaload, 1) := by decide +kernel
theorem dX9_inDebt_102 : decode cX9_inDebt 102 = .ok (.imul, 1) := by decide +kernel
theorem dX9_inDebt_103 : decode cX9_inDebt 103 = .ok (.isub, 1) := by decide +kernel
theorem dX9_inDebt_104 : decode cX9_inDebt 104 = .ok (.ifCond .ge 9, 3) := by decide +kernel
theorem dX9_inDebt_107 : decode cX9_inDebt 107 = .ok (.iconst 1, 1) := by decide +kernel
theorem dX9_inDebt_108 : decode cX9_inDebt 108 = .ok (.iload_n 2, 1) := by decide +kernel
theorem dX9_inDebt_109 : decode cX9_inDebt 109 = .ok (.ishl, 1) := by decide +kernel
theorem dX9_inDebt_110 : decode cX9_inDebt 110 = .ok (.goto 4, 3) := by decide +kernel
theorem dX9_inDebt_113 : decode cX9_inDebt 113 = .ok (.iconst 0, 1) := by decide +kernel
theorem dX9_inDebt_114 : decode cX9_inDebt 114 = .ok (.ior, 1) := by decide +kernel
theorem dX9_inDebt_115 : decode cX9_inDebt 115 = .ok (.istore_n 1, 1) := by decide +kernel
theorem dX9_inDebt_116 : decode cX9_inDebt 116 = .ok (.iinc 2 1, 3) := by decide +kernel
theorem dX9_inDebt_119 : decode cX9_inDebt 119 = .ok (.goto (-59), 3) := by decide +kernel
theorem dX9_inDebt_122 : decode cX9_inDebt 122 = .ok (.iload_n 1, 1) := by decide +kernel
theorem dX9_inDebt_123 : decode cX9_inDebt 123 = .ok (.ireturn, 1) := by decide +kernel
set_option maxRecDepth 20000 in
theorem ggX9_command_X9_does : GoodIn wsX9_command wsX9_does := goodIn_r _ [5, 6, 7, 8, 4, 9, 10, 11, 12, 13, 14, 15, 16, 17, 18, 19, 20, 21, 22, 23, 24, 25, 26, 27, 28, 29, 30, 31, 32, 33, 34, 35, 36, 37, 38, 39, 40, 41, 42, 43, 44, 45, 46, 47, 48, 49, 50, 51, 52, 53, 54, 55, 56, 57, 58, 59, 60, 61, 62, 63, 64, 65, 66, 67, 68, 69, 70, 71, 72, 73, 74, 75, 76, 77, 78, 79, 80, 81, 82, 83, 84, 85, 86, 87, 88, 89, 90, 91, 92, 93, 94, 95, 96, 97, 98, 99, 100, 101, 102, 103, 104, 105, 106, 107, 108, 109, 110, 111, 112, 113, 114, 115, 116, 117, 118] (by decide +kernel) (by decide +kernel)
set_option maxRecDepth 20000 in
theorem gX9_command_X9_does : GoodIn wsX9_command (va_wsS RX9 185 yX9_does wsX9_does) := goodIn_app (goodIn_of _ (by decide +kernel)) ggX9_command_X9_does
set_option maxRecDepth 20000 in
theorem ggX9_command_X9_isUnit : GoodIn wsX9_command wsX9_isUnit := goodIn_r _ [34, 15, 16, 4, 17] (by decide +kernel) (by decide +kernel)
set_option maxRecDepth 20000 in
theorem gX9_command_X9_isUnit : GoodIn wsX9_command (va_wsS RX9 69 yX9_isUnit wsX9_isUnit) := goodIn_app (goodIn_of _ (by decide +kernel)) ggX9_command_X9_isUnit
set_option maxRecDepth 20000 in
theorem ggX9_command_X9_isHolder : GoodIn wsX9_command wsX9_isHolder := goodIn_r _ [20, 21, 15, 16, 4, 17] (by decide +kernel) (by decide +kernel)
set_option maxRecDepth 20000 in
theorem gX9_command_X9_isHolder : GoodIn wsX9_command (va_wsS RX9 60 yX9_isHolder wsX9_isHolder) := goodIn_app (goodIn_of _ (by decide +kernel)) ggX9_command_X9_isHolder
set_option maxRecDepth 20000 in
theorem ggX9_command_X9_of : GoodIn wsX9_command wsX9_of := goodIn_r _ [40] (by decide +kernel) (by decide +kernel)
set_option maxRecDepth 20000 in
theorem gX9_command_X9_of : GoodIn wsX9_command (va_wsS RX9 45 yX9_of wsX9_of) := goodIn_app (goodIn_of _ (by decide +kernel)) ggX9_command_X9_of
set_option maxRecDepth 20000 in
theorem ggX9_command_X9_usable : GoodIn wsX9_command wsX9_usable := goodIn_r _ [121, 38, 39, 4, 40] (by decide +kernel) (by decide +kernel)
set_option maxRecDepth 20000 in
theorem gX9_command_X9_usable : GoodIn wsX9_command (va_wsS RX9 204 yX9_usable wsX9_usable) := goodIn_app (goodIn_of _ (by decide +kernel)) ggX9_command_X9_usable
theorem dX9_command_0 : decode cX9_command 0 = .ok (.iload_n 2, 1) := by decide +kernel
theorem dX9_command_1 : decode cX9_command 1 = .ok (.sipush 1000, 3) := by decide +kernel
theorem dX9_command_4 : decode cX9_command 4 = .ok (.idiv, 1) := by decide +kernel
theorem dX9_command_5 : decode cX9_command 5 = .ok (.istore_n 3, 1) := by decide +kernel
theorem dX9_command_6 : decode cX9_command 6 = .ok (.iload_n 2, 1) := by decide +kernel
theorem dX9_command_7 : decode cX9_command 7 = .ok (.bipush 10, 2) := by decide +kernel
theorem dX9_command_9 : decode cX9_command 9 = .ok (.idiv, 1) := by decide +kernel
theorem dX9_command_10 : decode cX9_command 10 = .ok (.bipush 100, 2) := by decide +kernel
theorem dX9_command_12 : decode cX9_command 12 = .ok (.irem, 1) := by decide +kernel
theorem dX9_command_13 : decode cX9_command 13 = .ok (.istore 4, 2) := by decide +kernel
theorem dX9_command_15 : decode cX9_command 15 = .ok (.iload_n 2, 1) := by decide +kernel
theorem dX9_command_16 : decode cX9_command 16 = .ok (.bipush 10, 2) := by decide +kernel
theorem dX9_command_18 : decode cX9_command 18 = .ok (.irem, 1) := by decide +kernel
theorem dX9_command_19 : decode cX9_command 19 = .ok (.istore 5, 2) := by decide +kernel
theorem dX9_command_21 : decode cX9_command 21 = .ok (.iload_n 1, 1) := by decide +kernel
theorem dX9_command_22 : decode cX9_command 22 = .ok (.tableswitch 331 1 9 #[50, 72, 99, 126, 141, 168, 202, 258, 308], 50) := by decide +kernel
theorem dX9_command_72 : decode cX9_command 72 = .ok (.aload_n 0, 1) := by decide +kernel
theorem dX9_command_73 : decode cX9_command 73 = .ok (.getfield 16, 3) := by decide +kernel
theorem dX9_command_76 : decode cX9_command 76 = .ok (.bipush 108, 2) := by decide +kernel
theorem dX9_command_78 : decode cX9_command 78 = .ok (.iload_n 3, 1) := by decide +kernel
theorem dX9_command_79 : decode cX9_command 79 = .ok (.iload_n 2, 1) := by decide +kernel
theorem dX9_command_80 : decode cX9_command 80 = .ok (.bipush 100, 2) := by decide +kernel
theorem dX9_command_82 : decode cX9_command 82 = .ok (.idiv, 1) := by decide +kernel
theorem dX9_command_83 : decode cX9_command 83 = .ok (.bipush 10, 2) := by decide +kernel
theorem dX9_command_85 : decode cX9_command 85 = .ok (.irem, 1) := by decide +kernel
theorem dX9_command_86 : decode cX9_command 86 = .ok (.iload_n 2, 1) := by decide +kernel
theorem dX9_command_87 : decode cX9_command 87 = .ok (.bipush 100, 2) := by decide +kernel
theorem dX9_command_89 : decode cX9_command 89 = .ok (.irem, 1) := by decide +kernel
theorem dX9_command_90 : decode cX9_command 90 = .ok (.invokestatic 185, 3) := by decide +kernel
theorem dX9_command_93 : decode cX9_command 93 = .ok (.ireturn, 1) := by decide +kernel
theorem dX9_command_94 : decode cX9_command 94 = .ok (.iload_n 2, 1) := by decide +kernel
theorem dX9_command_95 : decode cX9_command 95 = .ok (.bipush 100, 2) := by decide +kernel
theorem dX9_command_97 : decode cX9_command 97 = .ok (.if_icmp .ge 22, 3) := by decide +kernel
theorem dX9_command_100 : decode cX9_command 100 = .ok (.aload_n 0, 1) := by decide +kernel
theorem dX9_command_101 : decode cX9_command 101 = .ok (.getfield 16, 3) := by decide +kernel
theorem dX9_command_104 : decode cX9_command 104 = .ok (.bipush 114, 2) := by decide +kernel
theorem dX9_command_106 : decode cX9_command 106 = .ok (.iload_n 2, 1) := by decide +kernel
theorem dX9_command_107 : decode cX9_command 107 = .ok (.iconst 0, 1) := by decide +kernel
theorem dX9_command_108 : decode cX9_command 108 = .ok (.iconst 0, 1) := by decide +kernel
theorem dX9_command_109 : decode cX9_command 109 = .ok (.invokestatic 185, 3) := by decide +kernel
theorem dX9_command_112 : decode cX9_command 112 = .ok (.ifCond .eq 7, 3) := by decide +kernel
theorem dX9_command_115 : decode cX9_command 115 = .ok (.iconst 1, 1) := by decide +kernel
theorem dX9_command_116 : decode cX9_command 116 = .ok (.goto 4, 3) := by decide +kernel
theorem dX9_command_119 : decode cX9_command 119 = .ok (.iconst 0, 1) := by decide +kernel
theorem dX9_command_120 : decode cX9_command 120 = .ok (.ireturn, 1) := by decide +kernel
theorem dX9_command_121 : decode cX9_command 121 = .ok (.iload 5, 2) := by decide +kernel
theorem dX9_command_123 : decode cX9_command 123 = .ok (.ifCond .ne 23, 3) := by decide +kernel
theorem dX9_command_126 : decode cX9_command 126 = .ok (.aload_n 0, 1) := by decide +kernel
theorem dX9_command_127 : decode cX9_command 127 = .ok (.getfield 16, 3) := by decide +kernel
theorem dX9_command_130 : decode cX9_command 130 = .ok (.bipush 120, 2) := by decide +kernel
theorem dX9_command_132 : decode cX9_command 132 = .ok (.iload_n 3, 1) := by decide +kernel
theorem dX9_command_133 : decode cX9_command 133 = .ok (.iload 4, 2) := by decide +kernel
theorem dX9_command_135 : decode cX9_command 135 = .ok (.iconst 0, 1) := by decide +kernel
theorem dX9_command_136 : decode cX9_command 136 = .ok (.invokestatic 185, 3) := by decide +kernel
theorem dX9_command_139 : decode cX9_command 139 = .ok (.ifCond .eq 7, 3) := by decide +kernel
theorem dX9_command_142 : decode cX9_command 142 = .ok (.iconst 1, 1) := by decide +kernel
theorem dX9_command_143 : decode cX9_command 143 = .ok (.goto 4, 3) := by decide +kernel
theorem dX9_command_146 : decode cX9_command 146 = .ok (.iconst 0, 1) := by decide +kernel
theorem dX9_command_147 : decode cX9_command 147 = .ok (.ireturn, 1) := by decide +kernel
theorem dX9_command_148 : decode cX9_command 148 = .ok (.aload_n 0, 1) := by decide +kernel
theorem dX9_command_149 : decode cX9_command 149 = .ok (.getfield 16, 3) := by decide +kernel
theorem dX9_command_152 : decode cX9_command 152 = .ok (.bipush 116, 2) := by decide +kernel
theorem dX9_command_154 : decode cX9_command 154 = .ok (.iload_n 3, 1) := by decide +kernel
theorem dX9_command_155 : decode cX9_command 155 = .ok (.iload 4, 2) := by decide +kernel
theorem dX9_command_157 : decode cX9_command 157 = .ok (.iload 5, 2) := by decide +kernel
theorem dX9_command_159 : decode cX9_command 159 = .ok (.invokestatic 185, 3) := by decide +kernel
theorem dX9_command_162 : decode cX9_command 162 = .ok (.ireturn, 1) := by decide +kernel
theorem dX9_command_163 : decode cX9_command 163 = .ok (.iload_n 2, 1) := by decide +kernel
theorem dX9_command_164 : decode cX9_command 164 = .ok (.bipush 100, 2) := by decide +kernel
theorem dX9_command_166 : decode cX9_command 166 = .ok (.if_icmp .ge 22, 3) := by decide +kernel
theorem dX9_command_169 : decode cX9_command 169 = .ok (.aload_n 0, 1) := by decide +kernel
theorem dX9_command_170 : decode cX9_command 170 = .ok (.getfield 16, 3) := by decide +kernel
theorem dX9_command_173 : decode cX9_command 173 = .ok (.bipush 100, 2) := by decide +kernel
theorem dX9_command_175 : decode cX9_command 175 = .ok (.iload_n 2, 1) := by decide +kernel
theorem dX9_command_176 : decode cX9_command 176 = .ok (.iconst 0, 1) := by decide +kernel
theorem dX9_command_177 : decode cX9_command 177 = .ok (.iconst 0, 1) := by decide +kernel
theorem dX9_command_178 : decode cX9_command 178 = .ok (.invokestatic 185, 3) := by decide +kernel
theorem dX9_command_181 : decode cX9_command 181 = .ok (.ifCond .eq 7, 3) := by decide +kernel
theorem dX9_command_184 : decode cX9_command 184 = .ok (.iconst 1, 1) := by decide +kernel
theorem dX9_command_185 : decode cX9_command 185 = .ok (.goto 4, 3) := by decide +kernel
theorem dX9_command_188 : decode cX9_command 188 = .ok (.iconst 0, 1) := by decide +kernel
theorem dX9_command_189 : decode cX9_command 189 = .ok (.ireturn, 1) := by decide +kernel
theorem dX9_command_190 : decode cX9_command 190 = .ok (.iload_n 2, 1) := by decide +kernel
theorem dX9_command_191 : decode cX9_command 191 = .ok (.bipush 100, 2) := by decide +kernel
theorem dX9_command_193 : decode cX9_command 193 = .ok (.irem, 1) := by decide +kernel
theorem dX9_command_194 : decode cX9_command 194 = .ok (.ifCond .ne 28, 3) := by decide +kernel
theorem dX9_command_197 : decode cX9_command 197 = .ok (.aload_n 0, 1) := by decide +kernel
theorem dX9_command_198 : decode cX9_command 198 = .ok (.getfield 16, 3) := by decide +kernel
theorem dX9_command_201 : decode cX9_command 201 = .ok (.bipush 98, 2) := by decide +kernel
theorem dX9_command_203 : decode cX9_command 203 = .ok (.iload_n 3, 1) := by decide +kernel
theorem dX9_command_204 : decode cX9_command 204 = .ok (.iload_n 2, 1) := by decide +kernel
theorem dX9_command_205 : decode cX9_command 205 = .ok (.bipush 100, 2) := by decide +kernel
theorem dX9_command_207 : decode cX9_command 207 = .ok (.idiv, 1) := by decide +kernel
theorem dX9_command_208 : decode cX9_command 208 = .ok (.bipush 10, 2) := by decide +kernel
theorem dX9_command_210 : decode cX9_command 210 = .ok (.irem, 1) := by decide +kernel
theorem dX9_command_211 : decode cX9_command 211 = .ok (.iconst 0, 1) := by decide +kernel
theorem dX9_command_212 : decode cX9_command 212 = .ok (.invokestatic 185, 3) := by decide +kernel
theorem dX9_command_215 : decode cX9_command 215 = .ok (.ifCond .eq 7, 3) := by decide +kernel
theorem dX9_command_218 : decode cX9_command 218 = .ok (.iconst 1, 1) := by decide +kernel
theorem dX9_command_219 : decode cX9_command 219 = .ok (.goto 4, 3) := by decide +kernel
theorem dX9_command_222 : decode cX9_command 222 = .ok (.iconst 0, 1) := by decide +kernel
theorem dX9_command_223 : decode cX9_command 223 = .ok (.ireturn, 1) := by decide +kernel
theorem dX9_command_224 : decode cX9_command 224 = .ok (.iload_n 2, 1) := by decide +kernel
theorem dX9_command_225 : decode cX9_command 225 = .ok (.bipush 100, 2) := by decide +kernel
theorem dX9_command_227 : decode cX9_command 227 = .ok (.irem, 1) := by decide +kernel
theorem dX9_command_228 : decode cX9_command 228 = .ok (.ifCond .ne 50, 3) := by decide +kernel
theorem dX9_command_231 : decode cX9_command 231 = .ok (.aload_n 0, 1) := by decide +kernel
theorem dX9_command_232 : decode cX9_command 232 = .ok (.getfield 16, 3) := by decide +kernel
theorem dX9_command_235 : decode cX9_command 235 = .ok (.iload_n 3, 1) := by decide +kernel
theorem dX9_command_236 : decode cX9_command 236 = .ok (.invokestatic 69, 3) := by decide +kernel
theorem dX9_command_239 : decode cX9_command 239 = .ok (.ifCond .eq 39, 3) := by decide +kernel
theorem dX9_command_242 : decode cX9_command 242 = .ok (.iload_n 2, 1) := by decide +kernel
theorem dX9_command_243 : decode cX9_command 243 = .ok (.bipush 100, 2) := by decide +kernel
theorem dX9_command_245 : decode cX9_command 245 = .ok (.idiv, 1) := by decide +kernel
theorem dX9_command_246 : decode cX9_command 246 = .ok (.bipush 10, 2) := by decide +kernel
theorem dX9_command_248 : decode cX9_command 248 = .ok (.irem, 1) := by decide +kernel
theorem dX9_command_249 : decode cX9_command 249 = .ok (.invokestatic 60, 3) := by decide +kernel
theorem dX9_command_252 : decode cX9_command 252 = .ok (.ifCond .eq 26, 3) := by decide +kernel
theorem dX9_command_255 : decode cX9_command 255 = .ok (.aload_n 0, 1) := by decide +kernel
theorem dX9_command_256 : decode cX9_command 256 = .ok (.getfield 16, 3) := by decide +kernel
theorem dX9_command_259 : decode cX9_command 259 = .ok (.iload_n 3, 1) := by decide +kernel
theorem dX9_command_260 : decode cX9_command 260 = .ok (.iconst 2, 1) := by decide +kernel
theorem dX9_command_261 : decode cX9_command 261 = .ok (.invokestatic 45, 3) := by decide +kernel
theorem dX9_command_264 : decode cX9_command 264 = .ok (.iload_n 2, 1) := by decide +kernel
theorem dX9_command_265 : decode cX9_command 265 = .ok (.bipush 100, 2) := by decide +kernel
theorem dX9_command_267 : decode cX9_command 267 = .ok (.idiv, 1) := by decide +kernel
theorem dX9_command_268 : decode cX9_command 268 = .ok (.bipush 10, 2) := by decide +kernel
theorem dX9_command_270 : decode cX9_command 270 = .ok (.irem, 1) := by decide +kernel
theorem dX9_command_271 : decode cX9_command 271 = .ok (.if_icmp .ne 7, 3) := by decide +kernel
theorem dX9_command_274 : decode cX9_command 274 = .ok (.iconst 1, 1) := by decide +kernel
theorem dX9_command_275 : decode cX9_command 275 = .ok (.goto 4, 3) := by decide +kernel
theorem dX9_command_278 : decode cX9_command 278 = .ok (.iconst 0, 1) := by decide +kernel
theorem dX9_command_279 : decode cX9_command 279 = .ok (.ireturn, 1) := by decide +kernel
theorem dX9_command_280 : decode cX9_command 280 = .ok (.iload 5, 2) := by decide +kernel
theorem dX9_command_282 : decode cX9_command 282 = .ok (.ifCond .ne 46, 3) := by decide +kernel
theorem dX9_command_285 : decode cX9_command 285 = .ok (.iload_n 2, 1) := by decide +kernel
theorem dX9_command_286 : decode cX9_command 286 = .ok (.sipush 10000, 3) := by decide +kernel
theorem dX9_command_289 : decode cX9_command 289 = .ok (.idiv, 1) := by decide +kernel
theorem dX9_command_290 : decode cX9_command 290 = .ok (.invokestatic 60, 3) := by decide +kernel
theorem dX9_command_293 : decode cX9_command 293 = .ok (.ifCond .eq 35, 3) := by decide +kernel
theorem dX9_command_296 : decode cX9_command 296 = .ok (.aload_n 0, 1) := by decide +kernel
theorem dX9_command_297 : decode cX9_command 297 = .ok (.getfield 16, 3) := by decide +kernel
theorem dX9_command_300 : decode cX9_command 300 = .ok (.bipush 88, 2) := by decide +kernel
theorem dX9_command_302 : decode cX9_command 302 = .ok (.iload_n 2, 1) := by decide +kernel
theorem dX9_command_303 : decode cX9_command 303 = .ok (.sipush 10000, 3) := by decide +kernel
theorem dX9_command_306 : decode cX9_command 306 = .ok (.idiv, 1) := by decide +kernel
theorem dX9_command_307 : decode cX9_command 307 = .ok (.iadd, 1) := by decide +kernel
theorem dX9_command_308 : decode cX9_command 308 = .ok (.iaload, 1) := by decide +kernel
theorem dX9_command_309 : decode cX9_command 309 = .ok (.iload_n 2, 1) := by decide +kernel
theorem dX9_command_310 : decode cX9_command 310 = .ok (.bipush 10, 2) := by decide +kernel
theorem dX9_command_312 : decode cX9_command 312 = .ok (.idiv, 1) := by decide +kernel
theorem dX9_command_313 : decode cX9_command 313 = .ok (.sipush 1000, 3) := by decide +kernel
theorem dX9_command_316 : decode cX9_command 316 = .ok (.irem, 1) := by decide +kernel
theorem dX9_command_317 : decode cX9_command 317 = .ok (.sipush 500, 3) := by decide +kernel
theorem dX9_command_320 : decode cX9_command 320 = .ok (.isub, 1) := by decide +kernel
theorem dX9_command_321 : decode cX9_command 321 = .ok (.if_icmp .lt 7, 3) := by decide +kernel
theorem dX9_command_324 : decode cX9_command 324 = .ok (.iconst 1, 1) := by decide +kernel
theorem dX9_command_325 : decode cX9_command 325 = .ok (.goto 4, 3) := by decide +kernel
theorem dX9_command_328 : decode cX9_command 328 = .ok (.iconst 0, 1) := by decide +kernel
theorem dX9_command_329 : decode cX9_command 329 = .ok (.ireturn, 1) := by decide +kernel
theorem dX9_command_330 : decode cX9_command 330 = .ok (.iload_n 2, 1) := by decide +kernel
theorem dX9_command_331 : decode cX9_command 331 = .ok (.bipush 100, 2) := by decide +kernel
theorem dX9_command_333 : decode cX9_command 333 = .ok (.if_icmp .ge 18, 3) := by decide +kernel
theorem dX9_command_336 : decode cX9_command 336 = .ok (.aload_n 0, 1) := by decide +kernel
theorem dX9_command_337 : decode cX9_command 337 = .ok (.getfield 16, 3) := by decide +kernel
theorem dX9_command_340 : decode cX9_command 340 = .ok (.invokestatic 204, 3) := by decide +kernel
theorem dX9_command_343 : decode cX9_command 343 = .ok (.iload_n 2, 1) := by decide +kernel
theorem dX9_command_344 : decode cX9_command 344 = .ok (.if_icmp .lt 7, 3) := by decide +kernel
theorem dX9_command_347 : decode cX9_command 347 = .ok (.iconst 1, 1) := by decide +kernel
theorem dX9_command_348 : decode cX9_command 348 = .ok (.goto 4, 3) := by decide +kernel
theorem dX9_command_351 : decode cX9_command 351 = .ok (.iconst 0, 1) := by decide +kernel
theorem dX9_command_352 : decode cX9_command 352 = .ok (.ireturn, 1) := by decide +kernel
theorem dX9_command_353 : decode cX9_command 353 = .ok (.iconst 0, 1) := by decide +kernel
theorem dX9_command_354 : decode cX9_command 354 = .ok (.ireturn, 1) := by decide +kernel
set_option maxRecDepth 20000 in
theorem ggX9_runScript_X9_in : GoodIn wsX9_runScript wsX9_in := goodIn_r _ [9] (by decide +kernel) (by decide +kernel)
set_option maxRecDepth 20000 in
theorem gX9_runScript_X9_in : GoodIn wsX9_runScript (va_wsS RX9 37 yX9_in wsX9_in) := goodIn_app (goodIn_of _ (by decide +kernel)) ggX9_runScript_X9_in
set_option maxRecDepth 20000 in
theorem ggX9_runScript_X9_refused : GoodIn wsX9_runScript wsX9_refused := goodIn_r _ [13, 14, 138, 139, 140, 141, 142, 143, 144, 145, 146, 147, 148] (by decide +kernel) (by decide +kernel)
set_option maxRecDepth 20000 in
theorem gX9_runScript_X9_refused : GoodIn wsX9_runScript (wsV RX9 116 RX9 yX9_refused wsX9_refused) := goodIn_app (goodIn_of _ (by decide +kernel)) ggX9_runScript_X9_refused
set_option maxRecDepth 20000 in
theorem ggX9_runScript_X9_copyState : GoodIn wsX9_runScript wsX9_copyState := goodIn_r _ [17] (by decide +kernel) (by decide +kernel)
set_option maxRecDepth 20000 in
theorem gX9_runScript_X9_copyState : GoodIn wsX9_runScript (va_wsS RX9 197 yX9_copyState wsX9_copyState) := goodIn_app (goodIn_of _ (by decide +kernel)) ggX9_runScript_X9_copyState
set_option maxRecDepth 20000 in
theorem ggX9_runScript_X9_command : GoodIn wsX9_runScript wsX9_command := goodIn_r _ [21, 4, 22, 23, 8, 24, 25, 26, 27, 28, 29, 30, 31, 32, 33, 6, 7, 9, 34, 35, 36, 37, 38, 39, 40, 41, 42, 43, 44, 45, 46, 47, 48, 49, 50, 51, 52, 53, 54, 55, 56, 57, 58, 59, 60, 61, 62, 63, 64, 65, 66, 67, 68, 69, 70, 71, 72, 73, 74, 75, 76, 77, 78, 79, 80, 81, 82, 83, 84, 85, 86, 87, 88, 89, 90, 91, 92, 93, 94, 95, 96, 97, 98, 99, 100, 101, 102, 103, 104, 105, 106, 107, 108, 109, 110, 111, 112, 113, 114, 115, 116, 117, 118, 119, 120, 121, 122, 123, 124, 125, 126, 127, 128, 129, 130, 131, 132, 133, 134, 135, 136, 137, 138, 139, 140, 141, 142, 143, 144, 145, 146, 147, 148] (by decide +kernel) (by decide +kernel)
set_option maxRecDepth 20000 in
theorem gX9_runScript_X9_command : GoodIn wsX9_runScript (wsV RX9 241 RX9 yX9_command wsX9_command) := goodIn_app (goodIn_of _ (by decide +kernel)) ggX9_runScript_X9_command
theorem dX9_runScript_0 : decode cX9_runScript 0 = .ok (.lconst 1, 1) := by decide +kernel
theorem dX9_runScript_1 : decode cX9_runScript 1 = .ok (.lstore 4, 2) := by decide +kernel
theorem dX9_runScript_3 : decode cX9_runScript 3 = .ok (.iconst 0, 1) := by decide +kernel
theorem dX9_runScript_4 : decode cX9_runScript 4 = .ok (.istore 6, 2) := by decide +kernel
theorem dX9_runScript_6 : decode cX9_runScript 6 = .ok (.iload 6, 2) := by decide +kernel
theorem dX9_runScript_8 : decode cX9_runScript 8 = .ok (.iload_n 1, 1) := by decide +kernel
theorem dX9_runScript_9 : decode cX9_runScript 9 = .ok (.if_icmp .ge 23, 3) := by decide +kernel
theorem dX9_runScript_12 : decode cX9_runScript 12 = .ok (.iload 6, 2) := by decide +kernel
theorem dX9_runScript_14 : decode cX9_runScript 14 = .ok (.iconst 3, 1) := by decide +kernel
theorem dX9_runScript_15 : decode cX9_runScript 15 = .ok (.if_icmp .ge 17, 3) := by decide +kernel
theorem dX9_runScript_18 : decode cX9_runScript 18 = .ok (.lload 4, 2) := by decide +kernel
theorem dX9_runScript_20 : decode cX9_runScript 20 = .ok (.ldc2_w 236, 3) := by decide +kernel
theorem dX9_runScript_23 : decode cX9_runScript 23 = .ok (.lmul, 1) := by decide +kernel
theorem dX9_runScript_24 : decode cX9_runScript 24 = .ok (.lstore 4, 2) := by decide +kernel
theorem dX9_runScript_26 : decode cX9_runScript 26 = .ok (.iinc 6 1, 3) := by decide +kernel
theorem dX9_runScript_29 : decode cX9_runScript 29 = .ok (.goto (-23), 3) := by decide +kernel
theorem dX9_runScript_32 : decode cX9_runScript 32 = .ok (.aload_n 0, 1) := by decide +kernel
theorem dX9_runScript_33 : decode cX9_runScript 33 = .ok (.iload_n 1, 1) := by decide +kernel
theorem dX9_runScript_34 : decode cX9_runScript 34 = .ok (.i2l, 1) := by decide +kernel
theorem dX9_runScript_35 : decode cX9_runScript 35 = .ok (.lconst 1, 1) := by decide +kernel
theorem dX9_runScript_36 : decode cX9_runScript 36 = .ok (.ldc2_w 238, 3) := by decide +kernel
theorem dX9_runScript_39 : decode cX9_runScript 39 = .ok (.invokestatic 37, 3) := by decide +kernel
theorem dX9_runScript_42 : decode cX9_runScript 42 = .ok (.ifCond .eq 19, 3) := by decide +kernel
theorem dX9_runScript_45 : decode cX9_runScript 45 = .ok (.lload_n 2, 1) := by decide +kernel
theorem dX9_runScript_46 : decode cX9_runScript 46 = .ok (.lconst 0, 1) := by decide +kernel
theorem dX9_runScript_47 : decode cX9_runScript 47 = .ok (.lload 4, 2) := by decide +kernel
theorem dX9_runScript_49 : decode cX9_runScript 49 = .ok (.lconst 1, 1) := by decide +kernel
theorem dX9_runScript_50 : decode cX9_runScript 50 = .ok (.lsub, 1) := by decide +kernel
theorem dX9_runScript_51 : decode cX9_runScript 51 = .ok (.invokestatic 37, 3) := by decide +kernel
theorem dX9_runScript_54 : decode cX9_runScript 54 = .ok (.ifCond .eq 7, 3) := by decide +kernel
theorem dX9_runScript_57 : decode cX9_runScript 57 = .ok (.iconst 0, 1) := by decide +kernel
theorem dX9_runScript_58 : decode cX9_runScript 58 = .ok (.goto 4, 3) := by decide +kernel
theorem dX9_runScript_61 : decode cX9_runScript 61 = .ok (.iconst 1, 1) := by decide +kernel
theorem dX9_runScript_62 : decode cX9_runScript 62 = .ok (.invokevirtual 116, 3) := by decide +kernel
theorem dX9_runScript_65 : decode cX9_runScript 65 = .ok (.ifCond .eq 5, 3) := by decide +kernel
theorem dX9_runScript_68 : decode cX9_runScript 68 = .ok (.iconst 0, 1) := by decide +kernel
theorem dX9_runScript_69 : decode cX9_runScript 69 = .ok (.ireturn, 1) := by decide +kernel
theorem dX9_runScript_70 : decode cX9_runScript 70 = .ok (.aload_n 0, 1) := by decide +kernel
theorem dX9_runScript_71 : decode cX9_runScript 71 = .ok (.getfield 13, 3) := by decide +kernel
theorem dX9_runScript_74 : decode cX9_runScript 74 = .ok (.iconst 0, 1) := by decide +kernel
theorem dX9_runScript_75 : decode cX9_runScript 75 = .ok (.aload_n 0, 1) := by decide +kernel
theorem dX9_runScript_76 : decode cX9_runScript 76 = .ok (.getfield 16, 3) := by decide +kernel
theorem dX9_runScript_79 : decode cX9_runScript 79 = .ok (.iconst 0, 1) := by decide +kernel
theorem dX9_runScript_80 : decode cX9_runScript 80 = .ok (.invokestatic 197, 3) := by decide +kernel
theorem dX9_runScript_83 : decode cX9_runScript 83 = .ok (.iconst 0, 1) := by decide +kernel
theorem dX9_runScript_84 : decode cX9_runScript 84 = .ok (.istore 6, 2) := by decide +kernel
theorem dX9_runScript_86 : decode cX9_runScript 86 = .ok (.iload 6, 2) := by decide +kernel
theorem dX9_runScript_88 : decode cX9_runScript 88 = .ok (.iload_n 1, 1) := by decide +kernel
theorem dX9_runScript_89 : decode cX9_runScript 89 = .ok (.if_icmp .ge 48, 3) := by decide +kernel
theorem dX9_runScript_92 : decode cX9_runScript 92 = .ok (.lload 4, 2) := by decide +kernel
theorem dX9_runScript_94 : decode cX9_runScript 94 = .ok (.ldc2_w 236, 3) := by decide +kernel
theorem dX9_runScript_97 : decode cX9_runScript 97 = .ok (.ldiv, 1) := by decide +kernel
theorem dX9_runScript_98 : decode cX9_runScript 98 = .ok (.lstore 4, 2) := by decide +kernel
theorem dX9_runScript_100 : decode cX9_runScript 100 = .ok (.lload_n 2, 1) := by decide +kernel
theorem dX9_runScript_101 : decode cX9_runScript 101 = .ok (.lload 4, 2) := by decide +kernel
theorem dX9_runScript_103 : decode cX9_runScript 103 = .ok (.ldiv, 1) := by decide +kernel
theorem dX9_runScript_104 : decode cX9_runScript 104 = .ok (.ldc2_w 236, 3) := by decide +kernel
theorem dX9_runScript_107 : decode cX9_runScript 107 = .ok (.lrem, 1) := by decide +kernel
theorem dX9_runScript_108 : decode cX9_runScript 108 = .ok (.l2i, 1) := by decide +kernel
theorem dX9_runScript_109 : decode cX9_runScript 109 = .ok (.istore 7, 2) := by decide +kernel
theorem dX9_runScript_111 : decode cX9_runScript 111 = .ok (.aload_n 0, 1) := by decide +kernel
theorem dX9_runScript_112 : decode cX9_runScript 112 = .ok (.iload 7, 2) := by decide +kernel
theorem dX9_runScript_114 : decode cX9_runScript 114 = .ok (.ldc 240, 2) := by decide +kernel
theorem dX9_runScript_116 : decode cX9_runScript 116 = .ok (.idiv, 1) := by decide +kernel
theorem dX9_runScript_117 : decode cX9_runScript 117 = .ok (.iload 7, 2) := by decide +kernel
theorem dX9_runScript_119 : decode cX9_runScript 119 = .ok (.ldc 240, 2) := by decide +kernel
theorem dX9_runScript_121 : decode cX9_runScript 121 = .ok (.irem, 1) := by decide +kernel
theorem dX9_runScript_122 : decode cX9_runScript 122 = .ok (.invokevirtual 241, 3) := by decide +kernel
theorem dX9_runScript_125 : decode cX9_runScript 125 = .ok (.ifCond .ne 6, 3) := by decide +kernel
theorem dX9_runScript_128 : decode cX9_runScript 128 = .ok (.iload 6, 2) := by decide +kernel
theorem dX9_runScript_130 : decode cX9_runScript 130 = .ok (.ireturn, 1) := by decide +kernel
theorem dX9_runScript_131 : decode cX9_runScript 131 = .ok (.iinc 6 1, 3) := by decide +kernel
theorem dX9_runScript_134 : decode cX9_runScript 134 = .ok (.goto (-48), 3) := by decide +kernel
theorem dX9_runScript_137 : decode cX9_runScript 137 = .ok (.iconst (-1), 1) := by decide +kernel
theorem dX9_runScript_138 : decode cX9_runScript 138 = .ok (.ireturn, 1) := by decide +kernel
set_option maxRecDepth 20000 in
theorem ggX9_turn_X9_does : GoodIn wsX9_turn wsX9_does := goodIn_r _ [6, 7, 8, 9, 5, 10, 11, 12, 13, 14, 15, 16, 17, 18, 19, 20, 21, 22, 23, 24, 25, 26, 27, 28, 29, 30, 31, 32, 33, 34, 35, 36, 37, 38, 39, 40, 41, 42, 43, 44, 45, 46, 47, 48, 49, 50, 51, 52, 53, 54, 55, 56, 57, 58, 59, 60, 61, 62, 63, 64, 65, 66, 67, 68, 69, 70, 71, 72, 73, 74, 75, 76, 77, 78, 79, 80, 81, 82, 83, 84, 85, 86, 87, 88, 89, 90, 91, 92, 93, 94, 95, 96, 97, 98, 99, 100, 101, 102, 103, 104, 105, 106, 107, 108, 109, 110, 111, 112, 113, 114, 115, 116, 117, 118, 119] (by decide +kernel) (by decide +kernel)
set_option maxRecDepth 20000 in
theorem gX9_turn_X9_does : GoodIn wsX9_turn (va_wsS RX9 185 yX9_does wsX9_does) := goodIn_app (goodIn_of _ (by decide +kernel)) ggX9_turn_X9_does
set_option maxRecDepth 20000 in
theorem ggX9_turn_X9_whyNotSettle : GoodIn wsX9_turn wsX9_whyNotSettle := goodIn_r _ [122, 19, 20, 5, 21, 22, 16, 17, 18, 12, 13, 14, 15, 102, 103, 104, 108, 109, 110] (by decide +kernel) (by decide +kernel)
set_option maxRecDepth 20000 in
theorem gX9_turn_X9_whyNotSettle : GoodIn wsX9_turn (va_wsS RX9 220 yX9_whyNotSettle wsX9_whyNotSettle) := goodIn_app (goodIn_of _ (by decide +kernel)) ggX9_turn_X9_whyNotSettle
set_option maxRecDepth 20000 in
theorem ggX9_turn_X9_settleOn : GoodIn wsX9_turn wsX9_settleOn := goodIn_r _ [125, 108, 109, 5, 110, 57, 58, 59] (by decide +kernel) (by decide +kernel)
set_option maxRecDepth 20000 in
theorem gX9_turn_X9_settleOn : GoodIn wsX9_turn (va_wsS RX9 224 yX9_settleOn wsX9_settleOn) := goodIn_app (goodIn_of _ (by decide +kernel)) ggX9_turn_X9_settleOn
theorem dX9_turn_0 : decode cX9_turn 0 = .ok (.aload_n 0, 1) := by decide +kernel
theorem dX9_turn_1 : decode cX9_turn 1 = .ok (.getfield 16, 3) := by decide +kernel
theorem dX9_turn_4 : decode cX9_turn 4 = .ok (.iconst 1, 1) := by decide +kernel
theorem dX9_turn_5 : decode cX9_turn 5 = .ok (.iaload, 1) := by decide +kernel
theorem dX9_turn_6 : decode cX9_turn 6 = .ok (.ifCond .ne 7, 3) := by decide +kernel
theorem dX9_turn_9 : decode cX9_turn 9 = .ok (.iconst 1, 1) := by decide +kernel
theorem dX9_turn_10 : decode cX9_turn 10 = .ok (.goto 9, 3) := by decide +kernel
theorem dX9_turn_13 : decode cX9_turn 13 = .ok (.aload_n 0, 1) := by decide +kernel
theorem dX9_turn_14 : decode cX9_turn 14 = .ok (.getfield 16, 3) := by decide +kernel
theorem dX9_turn_17 : decode cX9_turn 17 = .ok (.iconst 1, 1) := by decide +kernel
theorem dX9_turn_18 : decode cX9_turn 18 = .ok (.iaload, 1) := by decide +kernel
theorem dX9_turn_19 : decode cX9_turn 19 = .ok (.istore_n 2, 1) := by decide +kernel
theorem dX9_turn_20 : decode cX9_turn 20 = .ok (.iload_n 1, 1) := by decide +kernel
theorem dX9_turn_21 : decode cX9_turn 21 = .ok (.bipush 16, 2) := by decide +kernel
theorem dX9_turn_23 : decode cX9_turn 23 = .ok (.idiv, 1) := by decide +kernel
theorem dX9_turn_24 : decode cX9_turn 24 = .ok (.iload_n 2, 1) := by decide +kernel
theorem dX9_turn_25 : decode cX9_turn 25 = .ok (.irem, 1) := by decide +kernel
theorem dX9_turn_26 : decode cX9_turn 26 = .ok (.istore_n 3, 1) := by decide +kernel
theorem dX9_turn_27 : decode cX9_turn 27 = .ok (.iload_n 1, 1) := by decide +kernel
theorem dX9_turn_28 : decode cX9_turn 28 = .ok (.sipush 256, 3) := by decide +kernel
theorem dX9_turn_31 : decode cX9_turn 31 = .ok (.idiv, 1) := by decide +kernel
theorem dX9_turn_32 : decode cX9_turn 32 = .ok (.iload_n 2, 1) := by decide +kernel
theorem dX9_turn_33 : decode cX9_turn 33 = .ok (.irem, 1) := by decide +kernel
theorem dX9_turn_34 : decode cX9_turn 34 = .ok (.istore 4, 2) := by decide +kernel
theorem dX9_turn_36 : decode cX9_turn 36 = .ok (.iload_n 1, 1) := by decide +kernel
theorem dX9_turn_37 : decode cX9_turn 37 = .ok (.sipush 4096, 3) := by decide +kernel
theorem dX9_turn_40 : decode cX9_turn 40 = .ok (.idiv, 1) := by decide +kernel
theorem dX9_turn_41 : decode cX9_turn 41 = .ok (.iconst 5, 1) := by decide +kernel
theorem dX9_turn_42 : decode cX9_turn 42 = .ok (.irem, 1) := by decide +kernel
theorem dX9_turn_43 : decode cX9_turn 43 = .ok (.istore 5, 2) := by decide +kernel
theorem dX9_turn_45 : decode cX9_turn 45 = .ok (.iload_n 1, 1) := by decide +kernel
theorem dX9_turn_46 : decode cX9_turn 46 = .ok (.ldc 245, 2) := by decide +kernel
theorem dX9_turn_48 : decode cX9_turn 48 = .ok (.idiv, 1) := by decide +kernel
theorem dX9_turn_49 : decode cX9_turn 49 = .ok (.istore 6, 2) := by decide +kernel
theorem dX9_turn_51 : decode cX9_turn 51 = .ok (.iload_n 1, 1) := by decide +kernel
theorem dX9_turn_52 : decode cX9_turn 52 = .ok (.bipush 16, 2) := by decide +kernel
theorem dX9_turn_54 : decode cX9_turn 54 = .ok (.irem, 1) := by decide +kernel
theorem dX9_turn_55 : decode cX9_turn 55 = .ok (.istore 7, 2) := by decide +kernel
theorem dX9_turn_57 : decode cX9_turn 57 = .ok (.iload 7, 2) := by decide +kernel
theorem dX9_turn_59 : decode cX9_turn 59 = .ok (.iconst 3, 1) := by decide +kernel
theorem dX9_turn_60 : decode cX9_turn 60 = .ok (.if_icmp .ge 31, 3) := by decide +kernel
theorem dX9_turn_63 : decode cX9_turn 63 = .ok (.aload_n 0, 1) := by decide +kernel
theorem dX9_turn_64 : decode cX9_turn 64 = .ok (.getfield 16, 3) := by decide +kernel
theorem dX9_turn_67 : decode cX9_turn 67 = .ok (.bipush 110, 2) := by decide +kernel
theorem dX9_turn_69 : decode cX9_turn 69 = .ok (.iload_n 1, 1) := by decide +kernel
theorem dX9_turn_70 : decode cX9_turn 70 = .ok (.bipush 16, 2) := by decide +kernel
theorem dX9_turn_72 : decode cX9_turn 72 = .ok (.idiv, 1) := by decide +kernel
theorem dX9_turn_73 : decode cX9_turn 73 = .ok (.iconst 3, 1) := by decide +kernel
theorem dX9_turn_74 : decode cX9_turn 74 = .ok (.irem, 1) := by decide +kernel
theorem dX9_turn_75 : decode cX9_turn 75 = .ok (.iload 5, 2) := by decide +kernel
theorem dX9_turn_77 : decode cX9_turn 77 = .ok (.iload_n 1, 1) := by decide +kernel
theorem dX9_turn_78 : decode cX9_turn 78 = .ok (.bipush 64, 2) := by decide +kernel
theorem dX9_turn_80 : decode cX9_turn 80 = .ok (.idiv, 1) := by decide +kernel
theorem dX9_turn_81 : decode cX9_turn 81 = .ok (.bipush 8, 2) := by decide +kernel
theorem dX9_turn_83 : decode cX9_turn 83 = .ok (.irem, 1) := by decide +kernel
theorem dX9_turn_84 : decode cX9_turn 84 = .ok (.invokestatic 185, 3) := by decide +kernel
theorem dX9_turn_87 : decode cX9_turn 87 = .ok (.pop, 1) := by decide +kernel
theorem dX9_turn_88 : decode cX9_turn 88 = .ok (.goto 268, 3) := by decide +kernel
theorem dX9_turn_91 : decode cX9_turn 91 = .ok (.iload 7, 2) := by decide +kernel
theorem dX9_turn_93 : decode cX9_turn 93 = .ok (.iconst 5, 1) := by decide +kernel
theorem dX9_turn_94 : decode cX9_turn 94 = .ok (.if_icmp .ge 26, 3) := by decide +kernel
theorem dX9_turn_97 : decode cX9_turn 97 = .ok (.aload_n 0, 1) := by decide +kernel
theorem dX9_turn_98 : decode cX9_turn 98 = .ok (.getfield 16, 3) := by decide +kernel
theorem dX9_turn_101 : decode cX9_turn 101 = .ok (.bipush 108, 2) := by decide +kernel
theorem dX9_turn_103 : decode cX9_turn 103 = .ok (.iload_n 3, 1) := by decide +kernel
theorem dX9_turn_104 : decode cX9_turn 104 = .ok (.iload 5, 2) := by decide +kernel
theorem dX9_turn_106 : decode cX9_turn 106 = .ok (.iconst 1, 1) := by decide +kernel
theorem dX9_turn_107 : decode cX9_turn 107 = .ok (.iload 6, 2) := by decide +kernel
theorem dX9_turn_109 : decode cX9_turn 109 = .ok (.bipush 9, 2) := by decide +kernel
theorem dX9_turn_111 : decode cX9_turn 111 = .ok (.irem, 1) := by decide +kernel
theorem dX9_turn_112 : decode cX9_turn 112 = .ok (.iadd, 1) := by decide +kernel
theorem dX9_turn_113 : decode cX9_turn 113 = .ok (.invokestatic 185, 3) := by decide +kernel
theorem dX9_turn_116 : decode cX9_turn 116 = .ok (.pop, 1) := by decide +kernel
theorem dX9_turn_117 : decode cX9_turn 117 = .ok (.goto 239, 3) := by decide +kernel
theorem dX9_turn_120 : decode cX9_turn 120 = .ok (.iload 7, 2) := by decide +kernel
theorem dX9_turn_122 : decode cX9_turn 122 = .ok (.iconst 5, 1) := by decide +kernel
theorem dX9_turn_123 : decode cX9_turn 123 = .ok (.if_icmp .ne 19, 3) := by decide +kernel
theorem dX9_turn_126 : decode cX9_turn 126 = .ok (.aload_n 0, 1) := by decide +kernel
theorem dX9_turn_127 : decode cX9_turn 127 = .ok (.getfield 16, 3) := by decide +kernel
theorem dX9_turn_130 : decode cX9_turn 130 = .ok (.bipush 114, 2) := by decide +kernel
theorem dX9_turn_132 : decode cX9_turn 132 = .ok (.iload_n 3, 1) := by decide +kernel
theorem dX9_turn_133 : decode cX9_turn 133 = .ok (.iconst 0, 1) := by decide +kernel
theorem dX9_turn_134 : decode cX9_turn 134 = .ok (.iconst 0, 1) := by decide +kernel
theorem dX9_turn_135 : decode cX9_turn 135 = .ok (.invokestatic 185, 3) := by decide +kernel
theorem dX9_turn_138 : decode cX9_turn 138 = .ok (.pop, 1) := by decide +kernel
theorem dX9_turn_139 : decode cX9_turn 139 = .ok (.goto 217, 3) := by decide +kernel
theorem dX9_turn_142 : decode cX9_turn 142 = .ok (.iload 7, 2) := by decide +kernel
theorem dX9_turn_144 : decode cX9_turn 144 = .ok (.bipush 8, 2) := by decide +kernel
theorem dX9_turn_146 : decode cX9_turn 146 = .ok (.if_icmp .ge 20, 3) := by decide +kernel
theorem dX9_turn_149 : decode cX9_turn 149 = .ok (.aload_n 0, 1) := by decide +kernel
theorem dX9_turn_150 : decode cX9_turn 150 = .ok (.getfield 16, 3) := by decide +kernel
theorem dX9_turn_153 : decode cX9_turn 153 = .ok (.bipush 120, 2) := by decide +kernel
theorem dX9_turn_155 : decode cX9_turn 155 = .ok (.iload_n 3, 1) := by decide +kernel
theorem dX9_turn_156 : decode cX9_turn 156 = .ok (.iload 4, 2) := by decide +kernel
theorem dX9_turn_158 : decode cX9_turn 158 = .ok (.iconst 0, 1) := by decide +kernel
theorem dX9_turn_159 : decode cX9_turn 159 = .ok (.invokestatic 185, 3) := by decide +kernel
theorem dX9_turn_162 : decode cX9_turn 162 = .ok (.pop, 1) := by decide +kernel
theorem dX9_turn_163 : decode cX9_turn 163 = .ok (.goto 193, 3) := by decide +kernel
theorem dX9_turn_166 : decode cX9_turn 166 = .ok (.iload 7, 2) := by decide +kernel
theorem dX9_turn_168 : decode cX9_turn 168 = .ok (.bipush 8, 2) := by decide +kernel
theorem dX9_turn_170 : decode cX9_turn 170 = .ok (.if_icmp .ne 27, 3) := by decide +kernel
theorem dX9_turn_173 : decode cX9_turn 173 = .ok (.aload_n 0, 1) := by decide +kernel
theorem dX9_turn_174 : decode cX9_turn 174 = .ok (.getfield 16, 3) := by decide +kernel
theorem dX9_turn_177 : decode cX9_turn 177 = .ok (.bipush 97, 2) := by decide +kernel
theorem dX9_turn_179 : decode cX9_turn 179 = .ok (.iload 5, 2) := by decide +kernel
theorem dX9_turn_181 : decode cX9_turn 181 = .ok (.iload 4, 2) := by decide +kernel
theorem dX9_turn_183 : decode cX9_turn 183 = .ok (.iconst 1, 1) := by decide +kernel
theorem dX9_turn_184 : decode cX9_turn 184 = .ok (.iload 6, 2) := by decide +kernel
theorem dX9_turn_186 : decode cX9_turn 186 = .ok (.bipush 9, 2) := by decide +kernel
theorem dX9_turn_188 : decode cX9_turn 188 = .ok (.irem, 1) := by decide +kernel
theorem dX9_turn_189 : decode cX9_turn 189 = .ok (.iadd, 1) := by decide +kernel
theorem dX9_turn_190 : decode cX9_turn 190 = .ok (.invokestatic 185, 3) := by decide +kernel
theorem dX9_turn_193 : decode cX9_turn 193 = .ok (.pop, 1) := by decide +kernel
theorem dX9_turn_194 : decode cX9_turn 194 = .ok (.goto 162, 3) := by decide +kernel
theorem dX9_turn_197 : decode cX9_turn 197 = .ok (.iload 7, 2) := by decide +kernel
theorem dX9_turn_199 : decode cX9_turn 199 = .ok (.bipush 9, 2) := by decide +kernel
theorem dX9_turn_201 : decode cX9_turn 201 = .ok (.if_icmp .ne 19, 3) := by decide +kernel
theorem dX9_turn_204 : decode cX9_turn 204 = .ok (.aload_n 0, 1) := by decide +kernel
theorem dX9_turn_205 : decode cX9_turn 205 = .ok (.getfield 16, 3) := by decide +kernel
theorem dX9_turn_208 : decode cX9_turn 208 = .ok (.bipush 118, 2) := by decide +kernel
theorem dX9_turn_210 : decode cX9_turn 210 = .ok (.iload_n 3, 1) := by decide +kernel
theorem dX9_turn_211 : decode cX9_turn 211 = .ok (.iconst 0, 1) := by decide +kernel
theorem dX9_turn_212 : decode cX9_turn 212 = .ok (.iconst 0, 1) := by decide +kernel
theorem dX9_turn_213 : decode cX9_turn 213 = .ok (.invokestatic 185, 3) := by decide +kernel
theorem dX9_turn_216 : decode cX9_turn 216 = .ok (.pop, 1) := by decide +kernel
theorem dX9_turn_217 : decode cX9_turn 217 = .ok (.goto 139, 3) := by decide +kernel
theorem dX9_turn_220 : decode cX9_turn 220 = .ok (.iload 7, 2) := by decide +kernel
theorem dX9_turn_222 : decode cX9_turn 222 = .ok (.bipush 13, 2) := by decide +kernel
theorem dX9_turn_224 : decode cX9_turn 224 = .ok (.if_icmp .ge 23, 3) := by decide +kernel
theorem dX9_turn_227 : decode cX9_turn 227 = .ok (.aload_n 0, 1) := by decide +kernel
theorem dX9_turn_228 : decode cX9_turn 228 = .ok (.getfield 16, 3) := by decide +kernel
theorem dX9_turn_231 : decode cX9_turn 231 = .ok (.bipush 116, 2) := by decide +kernel
theorem dX9_turn_233 : decode cX9_turn 233 = .ok (.iload_n 3, 1) := by decide +kernel
theorem dX9_turn_234 : decode cX9_turn 234 = .ok (.iload 4, 2) := by decide +kernel
theorem dX9_turn_236 : decode cX9_turn 236 = .ok (.iload 6, 2) := by decide +kernel
theorem dX9_turn_238 : decode cX9_turn 238 = .ok (.iconst 3, 1) := by decide +kernel
theorem dX9_turn_239 : decode cX9_turn 239 = .ok (.irem, 1) := by decide +kernel
theorem dX9_turn_240 : decode cX9_turn 240 = .ok (.invokestatic 185, 3) := by decide +kernel
theorem dX9_turn_243 : decode cX9_turn 243 = .ok (.pop, 1) := by decide +kernel
theorem dX9_turn_244 : decode cX9_turn 244 = .ok (.goto 112, 3) := by decide +kernel
theorem dX9_turn_247 : decode cX9_turn 247 = .ok (.iload 7, 2) := by decide +kernel
theorem dX9_turn_249 : decode cX9_turn 249 = .ok (.bipush 13, 2) := by decide +kernel
theorem dX9_turn_251 : decode cX9_turn 251 = .ok (.if_icmp .ne 22, 3) := by decide +kernel
theorem dX9_turn_254 : decode cX9_turn 254 = .ok (.aload_n 0, 1) := by decide +kernel
theorem dX9_turn_255 : decode cX9_turn 255 = .ok (.getfield 16, 3) := by decide +kernel
theorem dX9_turn_258 : decode cX9_turn 258 = .ok (.bipush 98, 2) := by decide +kernel
theorem dX9_turn_260 : decode cX9_turn 260 = .ok (.iload_n 3, 1) := by decide +kernel
theorem dX9_turn_261 : decode cX9_turn 261 = .ok (.iload 6, 2) := by decide +kernel
theorem dX9_turn_263 : decode cX9_turn 263 = .ok (.iconst 3, 1) := by decide +kernel
theorem dX9_turn_264 : decode cX9_turn 264 = .ok (.irem, 1) := by decide +kernel
theorem dX9_turn_265 : decode cX9_turn 265 = .ok (.iconst 0, 1) := by decide +kernel
theorem dX9_turn_266 : decode cX9_turn 266 = .ok (.invokestatic 185, 3) := by decide +kernel
theorem dX9_turn_269 : decode cX9_turn 269 = .ok (.pop, 1) := by decide +kernel
theorem dX9_turn_270 : decode cX9_turn 270 = .ok (.goto 86, 3) := by decide +kernel
theorem dX9_turn_273 : decode cX9_turn 273 = .ok (.iload 7, 2) := by decide +kernel
theorem dX9_turn_275 : decode cX9_turn 275 = .ok (.bipush 15, 2) := by decide +kernel
theorem dX9_turn_277 : decode cX9_turn 277 = .ok (.if_icmp .ne 25, 3) := by decide +kernel
theorem dX9_turn_280 : decode cX9_turn 280 = .ok (.aload_n 0, 1) := by decide +kernel
theorem dX9_turn_281 : decode cX9_turn 281 = .ok (.getfield 16, 3) := by decide +kernel
theorem dX9_turn_284 : decode cX9_turn 284 = .ok (.bipush 100, 2) := by decide +kernel
theorem dX9_turn_286 : decode cX9_turn 286 = .ok (.iconst 1, 1) := by decide +kernel
theorem dX9_turn_287 : decode cX9_turn 287 = .ok (.iload 6, 2) := by decide +kernel
theorem dX9_turn_289 : decode cX9_turn 289 = .ok (.bipush 9, 2) := by decide +kernel
theorem dX9_turn_291 : decode cX9_turn 291 = .ok (.irem, 1) := by decide +kernel
theorem dX9_turn_292 : decode cX9_turn 292 = .ok (.iadd, 1) := by decide +kernel
theorem dX9_turn_293 : decode cX9_turn 293 = .ok (.iconst 0, 1) := by decide +kernel
theorem dX9_turn_294 : decode cX9_turn 294 = .ok (.iconst 0, 1) := by decide +kernel
theorem dX9_turn_295 : decode cX9_turn 295 = .ok (.invokestatic 185, 3) := by decide +kernel
theorem dX9_turn_298 : decode cX9_turn 298 = .ok (.pop, 1) := by decide +kernel
theorem dX9_turn_299 : decode cX9_turn 299 = .ok (.goto 57, 3) := by decide +kernel
theorem dX9_turn_302 : decode cX9_turn 302 = .ok (.aload_n 0, 1) := by decide +kernel
theorem dX9_turn_303 : decode cX9_turn 303 = .ok (.getfield 16, 3) := by decide +kernel
theorem dX9_turn_306 : decode cX9_turn 306 = .ok (.iload 5, 2) := by decide +kernel
theorem dX9_turn_308 : decode cX9_turn 308 = .ok (.iload 6, 2) := by decide +kernel
theorem dX9_turn_310 : decode cX9_turn 310 = .ok (.iconst 5, 1) := by decide +kernel
theorem dX9_turn_311 : decode cX9_turn 311 = .ok (.irem, 1) := by decide +kernel
theorem dX9_turn_312 : decode cX9_turn 312 = .ok (.iload_n 1, 1) := by decide +kernel
theorem dX9_turn_313 : decode cX9_turn 313 = .ok (.bipush 16, 2) := by decide +kernel
theorem dX9_turn_315 : decode cX9_turn 315 = .ok (.idiv, 1) := by decide +kernel
theorem dX9_turn_316 : decode cX9_turn 316 = .ok (.iconst 3, 1) := by decide +kernel
theorem dX9_turn_317 : decode cX9_turn 317 = .ok (.irem, 1) := by decide +kernel
theorem dX9_turn_318 : decode cX9_turn 318 = .ok (.iload_n 1, 1) := by decide +kernel
theorem dX9_turn_319 : decode cX9_turn 319 = .ok (.bipush 64, 2) := by decide +kernel
theorem dX9_turn_321 : decode cX9_turn 321 = .ok (.idiv, 1) := by decide +kernel
theorem dX9_turn_322 : decode cX9_turn 322 = .ok (.iconst 3, 1) := by decide +kernel
theorem dX9_turn_323 : decode cX9_turn 323 = .ok (.irem, 1) := by decide +kernel
theorem dX9_turn_324 : decode cX9_turn 324 = .ok (.invokestatic 220, 3) := by decide +kernel
theorem dX9_turn_327 : decode cX9_turn 327 = .ok (.ifCond .ne 29, 3) := by decide +kernel
theorem dX9_turn_330 : decode cX9_turn 330 = .ok (.aload_n 0, 1) := by decide +kernel
theorem dX9_turn_331 : decode cX9_turn 331 = .ok (.getfield 16, 3) := by decide +kernel
theorem dX9_turn_334 : decode cX9_turn 334 = .ok (.iload 5, 2) := by decide +kernel
theorem dX9_turn_336 : decode cX9_turn 336 = .ok (.iload 6, 2) := by decide +kernel
theorem dX9_turn_338 : decode cX9_turn 338 = .ok (.iconst 5, 1) := by decide +kernel
theorem dX9_turn_339 : decode cX9_turn 339 = .ok (.irem, 1) := by decide +kernel
theorem dX9_turn_340 : decode cX9_turn 340 = .ok (.iload_n 1, 1) := by decide +kernel
theorem dX9_turn_341 : decode cX9_turn 341 = .ok (.bipush 16, 2) := by decide +kernel
theorem dX9_turn_343 : decode cX9_turn 343 = .ok (.idiv, 1) := by decide +kernel
theorem dX9_turn_344 : decode cX9_turn 344 = .ok (.iconst 3, 1) := by decide +kernel
theorem dX9_turn_345 : decode cX9_turn 345 = .ok (.irem, 1) := by decide +kernel
theorem dX9_turn_346 : decode cX9_turn 346 = .ok (.iload_n 1, 1) := by decide +kernel
theorem dX9_turn_347 : decode cX9_turn 347 = .ok (.bipush 64, 2) := by decide +kernel
theorem dX9_turn_349 : decode cX9_turn 349 = .ok (.idiv, 1) := by decide +kernel
theorem dX9_turn_350 : decode cX9_turn 350 = .ok (.iconst 3, 1) := by decide +kernel
theorem dX9_turn_351 : decode cX9_turn 351 = .ok (.irem, 1) := by decide +kernel
theorem dX9_turn_352 : decode cX9_turn 352 = .ok (.invokestatic 224, 3) := by decide +kernel
theorem dX9_turn_355 : decode cX9_turn 355 = .ok (.pop, 1) := by decide +kernel
theorem dX9_turn_356 : decode cX9_turn 356 = .ok (.return_, 1) := by decide +kernel
set_option maxRecDepth 20000 in
theorem ggX9_simulate_X9_in : GoodIn wsX9_simulate wsX9_in := goodIn_r _ [9] (by decide +kernel) (by decide +kernel)
set_option maxRecDepth 20000 in
theorem gX9_simulate_X9_in : GoodIn wsX9_simulate (va_wsS RX9 37 yX9_in wsX9_in) := goodIn_app (goodIn_of _ (by decide +kernel)) ggX9_simulate_X9_in
set_option maxRecDepth 20000 in
theorem ggX9_simulate_X9_refused : GoodIn wsX9_simulate wsX9_refused := goodIn_r _ [13, 14, 150, 151, 152, 153, 154, 155, 156, 157, 158, 159, 160] (by decide +kernel) (by decide +kernel)
set_option maxRecDepth 20000 in
theorem gX9_simulate_X9_refused : GoodIn wsX9_simulate (wsV RX9 116 RX9 yX9_refused wsX9_refused) := goodIn_app (goodIn_of _ (by decide +kernel)) ggX9_simulate_X9_refused
set_option maxRecDepth 20000 in
theorem ggX9_simulate_X9_copyState : GoodIn wsX9_simulate wsX9_copyState := goodIn_r _ [17] (by decide +kernel) (by decide +kernel)
set_option maxRecDepth 20000 in
theorem gX9_simulate_X9_copyState : GoodIn wsX9_simulate (va_wsS RX9 197 yX9_copyState wsX9_copyState) := goodIn_app (goodIn_of _ (by decide +kernel)) ggX9_simulate_X9_copyState
set_option maxRecDepth 20000 in
theorem ggX9_simulate_X9_turn : GoodIn wsX9_simulate wsX9_turn := goodIn_r _ [21, 3, 22, 23, 24, 8, 25, 1, 26, 27, 28, 29, 30, 31, 32, 33, 6, 7, 9, 34, 35, 36, 37, 38, 39, 40, 41, 42, 43, 44, 45, 46, 47, 48, 49, 50, 51, 52, 53, 54, 55, 56, 57, 58, 59, 60, 61, 62, 63, 64, 65, 66, 67, 68, 69, 70, 71, 72, 73, 74, 75, 76, 77, 78, 79, 80, 81, 82, 83, 84, 85, 86, 87, 88, 89, 90, 91, 92, 93, 94, 95, 96, 97, 98, 99, 100, 101, 102, 103, 104, 105, 106, 107, 108, 109, 110, 111, 112, 113, 114, 115, 116, 117, 118, 119, 120, 121, 122, 123, 124, 125, 126, 127, 128, 129, 130, 131, 132, 133, 134, 135, 136, 137, 138, 139, 140, 150, 151, 152, 153, 154, 155, 156, 157, 158, 159, 160] (by decide +kernel) (by decide +kernel)
set_option maxRecDepth 20000 in
theorem gX9_simulate_X9_turn : GoodIn wsX9_simulate (wsV RX9 250 RX9 yX9_turn wsX9_turn) := goodIn_app (goodIn_of _ (by decide +kernel)) ggX9_simulate_X9_turn
set_option maxRecDepth 20000 in
theorem ggX9_simulate_X9_usable : GoodIn wsX9_simulate wsX9_usable := goodIn_r _ [143, 54, 55, 8, 56] (by decide +kernel) (by decide +kernel)
set_option maxRecDepth 20000 in
theorem gX9_simulate_X9_usable : GoodIn wsX9_simulate (va_wsS RX9 204 yX9_usable wsX9_usable) := goodIn_app (goodIn_of _ (by decide +kernel)) ggX9_simulate_X9_usable
set_option maxRecDepth 20000 in
theorem ggX9_simulate_X9_coresOwed : GoodIn wsX9_simulate wsX9_coresOwed := goodIn_r _ [146, 99, 100, 8, 101] (by decide +kernel) (by decide +kernel)
set_option maxRecDepth 20000 in
theorem gX9_simulate_X9_coresOwed : GoodIn wsX9_simulate (va_wsS RX9 207 yX9_coresOwed wsX9_coresOwed) := goodIn_app (goodIn_of _ (by decide +kernel)) ggX9_simulate_X9_coresOwed
set_option maxRecDepth 20000 in
theorem ggX9_simulate_X9_partsOwed : GoodIn wsX9_simulate wsX9_partsOwed := goodIn_r _ [149, 123, 124, 8, 125] (by decide +kernel) (by decide +kernel)
set_option maxRecDepth 20000 in
theorem gX9_simulate_X9_partsOwed : GoodIn wsX9_simulate (va_wsS RX9 210 yX9_partsOwed wsX9_partsOwed) := goodIn_app (goodIn_of _ (by decide +kernel)) ggX9_simulate_X9_partsOwed
theorem dX9_simulate_0 : decode cX9_simulate 0 = .ok (.aload_n 0, 1) := by decide +kernel
theorem dX9_simulate_1 : decode cX9_simulate 1 = .ok (.iload_n 3, 1) := by decide +kernel
theorem dX9_simulate_2 : decode cX9_simulate 2 = .ok (.i2l, 1) := by decide +kernel
theorem dX9_simulate_3 : decode cX9_simulate 3 = .ok (.lconst 1, 1) := by decide +kernel
theorem dX9_simulate_4 : decode cX9_simulate 4 = .ok (.ldc2_w 173, 3) := by decide +kernel
theorem dX9_simulate_7 : decode cX9_simulate 7 = .ok (.invokestatic 37, 3) := by decide +kernel
theorem dX9_simulate_10 : decode cX9_simulate 10 = .ok (.ifCond .eq 7, 3) := by decide +kernel
theorem dX9_simulate_13 : decode cX9_simulate 13 = .ok (.iconst 0, 1) := by decide +kernel
theorem dX9_simulate_14 : decode cX9_simulate 14 = .ok (.goto 4, 3) := by decide +kernel
theorem dX9_simulate_17 : decode cX9_simulate 17 = .ok (.iconst 1, 1) := by decide +kernel
theorem dX9_simulate_18 : decode cX9_simulate 18 = .ok (.invokevirtual 116, 3) := by decide +kernel
theorem dX9_simulate_21 : decode cX9_simulate 21 = .ok (.ifCond .eq 5, 3) := by decide +kernel
theorem dX9_simulate_24 : decode cX9_simulate 24 = .ok (.iconst 0, 1) := by decide +kernel
theorem dX9_simulate_25 : decode cX9_simulate 25 = .ok (.ireturn, 1) := by decide +kernel
theorem dX9_simulate_26 : decode cX9_simulate 26 = .ok (.aload_n 0, 1) := by decide +kernel
theorem dX9_simulate_27 : decode cX9_simulate 27 = .ok (.getfield 13, 3) := by decide +kernel
theorem dX9_simulate_30 : decode cX9_simulate 30 = .ok (.iconst 0, 1) := by decide +kernel
theorem dX9_simulate_31 : decode cX9_simulate 31 = .ok (.aload_n 0, 1) := by decide +kernel
theorem dX9_simulate_32 : decode cX9_simulate 32 = .ok (.getfield 16, 3) := by decide +kernel
theorem dX9_simulate_35 : decode cX9_simulate 35 = .ok (.iconst 0, 1) := by decide +kernel
theorem dX9_simulate_36 : decode cX9_simulate 36 = .ok (.invokestatic 197, 3) := by decide +kernel
theorem dX9_simulate_39 : decode cX9_simulate 39 = .ok (.lload_n 1, 1) := by decide +kernel
theorem dX9_simulate_40 : decode cX9_simulate 40 = .ok (.lstore 4, 2) := by decide +kernel
theorem dX9_simulate_42 : decode cX9_simulate 42 = .ok (.iconst 0, 1) := by decide +kernel
theorem dX9_simulate_43 : decode cX9_simulate 43 = .ok (.istore 6, 2) := by decide +kernel
theorem dX9_simulate_45 : decode cX9_simulate 45 = .ok (.iload 6, 2) := by decide +kernel
theorem dX9_simulate_47 : decode cX9_simulate 47 = .ok (.iload_n 3, 1) := by decide +kernel
theorem dX9_simulate_48 : decode cX9_simulate 48 = .ok (.if_icmp .ge 31, 3) := by decide +kernel
theorem dX9_simulate_51 : decode cX9_simulate 51 = .ok (.lload 4, 2) := by decide +kernel
theorem dX9_simulate_53 : decode cX9_simulate 53 = .ok (.ldc2_w 246, 3) := by decide +kernel
theorem dX9_simulate_56 : decode cX9_simulate 56 = .ok (.lmul, 1) := by decide +kernel
theorem dX9_simulate_57 : decode cX9_simulate 57 = .ok (.ldc2_w 248, 3) := by decide +kernel
theorem dX9_simulate_60 : decode cX9_simulate 60 = .ok (.ladd, 1) := by decide +kernel
theorem dX9_simulate_61 : decode cX9_simulate 61 = .ok (.lstore 4, 2) := by decide +kernel
theorem dX9_simulate_63 : decode cX9_simulate 63 = .ok (.aload_n 0, 1) := by decide +kernel
theorem dX9_simulate_64 : decode cX9_simulate 64 = .ok (.lload 4, 2) := by decide +kernel
theorem dX9_simulate_66 : decode cX9_simulate 66 = .ok (.bipush 33, 2) := by decide +kernel
theorem dX9_simulate_68 : decode cX9_simulate 68 = .ok (.lushr, 1) := by decide +kernel
theorem dX9_simulate_69 : decode cX9_simulate 69 = .ok (.l2i, 1) := by decide +kernel
theorem dX9_simulate_70 : decode cX9_simulate 70 = .ok (.invokevirtual 250, 3) := by decide +kernel
theorem dX9_simulate_73 : decode cX9_simulate 73 = .ok (.iinc 6 1, 3) := by decide +kernel
theorem dX9_simulate_76 : decode cX9_simulate 76 = .ok (.goto (-31), 3) := by decide +kernel
theorem dX9_simulate_79 : decode cX9_simulate 79 = .ok (.sipush 1000, 3) := by decide +kernel
theorem dX9_simulate_82 : decode cX9_simulate 82 = .ok (.aload_n 0, 1) := by decide +kernel
theorem dX9_simulate_83 : decode cX9_simulate 83 = .ok (.getfield 16, 3) := by decide +kernel
theorem dX9_simulate_86 : decode cX9_simulate 86 = .ok (.invokestatic 204, 3) := by decide +kernel
theorem dX9_simulate_89 : decode cX9_simulate 89 = .ok (.imul, 1) := by decide +kernel
theorem dX9_simulate_90 : decode cX9_simulate 90 = .ok (.bipush 100, 2) := by decide +kernel
theorem dX9_simulate_92 : decode cX9_simulate 92 = .ok (.aload_n 0, 1) := by decide +kernel
theorem dX9_simulate_93 : decode cX9_simulate 93 = .ok (.getfield 16, 3) := by decide +kernel
theorem dX9_simulate_96 : decode cX9_simulate 96 = .ok (.invokestatic 207, 3) := by decide +kernel
theorem dX9_simulate_99 : decode cX9_simulate 99 = .ok (.imul, 1) := by decide +kernel
theorem dX9_simulate_100 : decode cX9_simulate 100 = .ok (.iadd, 1) := by decide +kernel
theorem dX9_simulate_101 : decode cX9_simulate 101 = .ok (.aload_n 0, 1) := by decide +kernel
theorem dX9_simulate_102 : decode cX9_simulate 102 = .ok (.getfield 16, 3) := by decide +kernel
theorem dX9_simulate_105 : decode cX9_simulate 105 = .ok (.iconst (-1), 1) := by decide +kernel
theorem dX9_simulate_106 : decode cX9_simulate 106 = .ok (.iconst (-1), 1) := by decide +kernel
theorem dX9_simulate_107 : decode cX9_simulate 107 = .ok (.invokestatic 210, 3) := by decide +kernel
theorem dX9_simulate_110 : decode cX9_simulate 110 = .ok (.iadd, 1) := by decide +kernel
theorem dX9_simulate_111 : decode cX9_simulate 111 = .ok (.ireturn, 1) := by decide +kernel
set_option maxRecDepth 20000 in
theorem ggX9_save_X9_in : GoodIn wsX9_save wsX9_in := goodIn_r _ [7] (by decide +kernel) (by decide +kernel)
set_option maxRecDepth 20000 in
theorem gX9_save_X9_in : GoodIn wsX9_save (va_wsS RX9 37 yX9_in wsX9_in) := goodIn_app (goodIn_of _ (by decide +kernel)) ggX9_save_X9_in
set_option maxRecDepth 20000 in
theorem ggX9_save_X9_refused : GoodIn wsX9_save wsX9_refused := goodIn_r _ [11, 12, 16, 17, 18, 19, 20, 21, 22, 23, 24, 25, 26] (by decide +kernel) (by decide +kernel)
set_option maxRecDepth 20000 in
theorem gX9_save_X9_refused : GoodIn wsX9_save (wsV RX9 116 RX9 yX9_refused wsX9_refused) := goodIn_app (goodIn_of _ (by decide +kernel)) ggX9_save_X9_refused
set_option maxRecDepth 20000 in
theorem ggX9_save_X9_copyState : GoodIn wsX9_save wsX9_copyState := goodIn_r _ [15] (by decide +kernel) (by decide +kernel)
set_option maxRecDepth 20000 in
theorem gX9_save_X9_copyState : GoodIn wsX9_save (va_wsS RX9 197 yX9_copyState wsX9_copyState) := goodIn_app (goodIn_of _ (by decide +kernel)) ggX9_save_X9_copyState
theorem dX9_save_0 : decode cX9_save 0 = .ok (.aload_n 0, 1) := by decide +kernel
theorem dX9_save_1 : decode cX9_save 1 = .ok (.iload_n 1, 1) := by decide +kernel
theorem dX9_save_2 : decode cX9_save 2 = .ok (.i2l, 1) := by decide +kernel
theorem dX9_save_3 : decode cX9_save 3 = .ok (.lconst 0, 1) := by decide +kernel
theorem dX9_save_4 : decode cX9_save 4 = .ok (.lconst 1, 1) := by decide +kernel
theorem dX9_save_5 : decode cX9_save 5 = .ok (.invokestatic 37, 3) := by decide +kernel
theorem dX9_save_8 : decode cX9_save 8 = .ok (.ifCond .eq 7, 3) := by decide +kernel
theorem dX9_save_11 : decode cX9_save 11 = .ok (.iconst 0, 1) := by decide +kernel
theorem dX9_save_12 : decode cX9_save 12 = .ok (.goto 4, 3) := by decide +kernel
theorem dX9_save_15 : decode cX9_save 15 = .ok (.iconst 1, 1) := by decide +kernel
theorem dX9_save_16 : decode cX9_save 16 = .ok (.invokevirtual 116, 3) := by decide +kernel
theorem dX9_save_19 : decode cX9_save 19 = .ok (.ifCond .eq 5, 3) := by decide +kernel
theorem dX9_save_22 : decode cX9_save 22 = .ok (.iconst 0, 1) := by decide +kernel
theorem dX9_save_23 : decode cX9_save 23 = .ok (.ireturn, 1) := by decide +kernel
theorem dX9_save_24 : decode cX9_save 24 = .ok (.aload_n 0, 1) := by decide +kernel
theorem dX9_save_25 : decode cX9_save 25 = .ok (.getfield 13, 3) := by decide +kernel
theorem dX9_save_28 : decode cX9_save 28 = .ok (.iconst 0, 1) := by decide +kernel
theorem dX9_save_29 : decode cX9_save 29 = .ok (.aload_n 0, 1) := by decide +kernel
theorem dX9_save_30 : decode cX9_save 30 = .ok (.getfield 22, 3) := by decide +kernel
theorem dX9_save_33 : decode cX9_save 33 = .ok (.sipush 383, 3) := by decide +kernel
theorem dX9_save_36 : decode cX9_save 36 = .ok (.iload_n 1, 1) := by decide +kernel
theorem dX9_save_37 : decode cX9_save 37 = .ok (.imul, 1) := by decide +kernel
theorem dX9_save_38 : decode cX9_save 38 = .ok (.invokestatic 197, 3) := by decide +kernel
theorem dX9_save_41 : decode cX9_save 41 = .ok (.aload_n 0, 1) := by decide +kernel
theorem dX9_save_42 : decode cX9_save 42 = .ok (.getfield 25, 3) := by decide +kernel
theorem dX9_save_45 : decode cX9_save 45 = .ok (.iload_n 1, 1) := by decide +kernel
theorem dX9_save_46 : decode cX9_save 46 = .ok (.iconst 1, 1) := by decide +kernel
theorem dX9_save_47 : decode cX9_save 47 = .ok (.bastore, 1) := by decide +kernel
theorem dX9_save_48 : decode cX9_save 48 = .ok (.aload_n 0, 1) := by decide +kernel
theorem dX9_save_49 : decode cX9_save 49 = .ok (.getfield 13, 3) := by decide +kernel
theorem dX9_save_52 : decode cX9_save 52 = .ok (.iconst 1, 1) := by decide +kernel
theorem dX9_save_53 : decode cX9_save 53 = .ok (.iaload, 1) := by decide +kernel
theorem dX9_save_54 : decode cX9_save 54 = .ok (.ireturn, 1) := by decide +kernel
set_option maxRecDepth 20000 in
theorem ggX9_restore_X9_in : GoodIn wsX9_restore wsX9_in := goodIn_r _ [8] (by decide +kernel) (by decide +kernel)
set_option maxRecDepth 20000 in
theorem gX9_restore_X9_in : GoodIn wsX9_restore (va_wsS RX9 37 yX9_in wsX9_in) := goodIn_app (goodIn_of _ (by decide +kernel)) ggX9_restore_X9_in
set_option maxRecDepth 20000 in
theorem ggX9_restore_X9_refused : GoodIn wsX9_restore wsX9_refused := goodIn_r _ [12, 13, 17, 18, 19, 20, 21, 22, 23, 24, 25, 26, 27] (by decide +kernel) (by decide +kernel)
set_option maxRecDepth 20000 in
theorem gX9_restore_X9_refused : GoodIn wsX9_restore (wsV RX9 116 RX9 yX9_refused wsX9_refused) := goodIn_app (goodIn_of _ (by decide +kernel)) ggX9_restore_X9_refused
set_option maxRecDepth 20000 in
theorem ggX9_restore_X9_copyState : GoodIn wsX9_restore wsX9_copyState := goodIn_r _ [16] (by decide +kernel) (by decide +kernel)
set_option maxRecDepth 20000 in
theorem gX9_restore_X9_copyState : GoodIn wsX9_restore (va_wsS RX9 197 yX9_copyState wsX9_copyState) := goodIn_app (goodIn_of _ (by decide +kernel)) ggX9_restore_X9_copyState
theorem dX9_restore_0 : decode cX9_restore 0 = .ok (.aload_n 0, 1) := by decide +kernel
theorem dX9_restore_1 : decode cX9_restore 1 = .ok (.iload_n 1, 1) := by decide +kernel
theorem dX9_restore_2 : decode cX9_restore 2 = .ok (.i2l, 1) := by decide +kernel
theorem dX9_restore_3 : decode cX9_restore 3 = .ok (.lconst 0, 1) := by decide +kernel
theorem dX9_restore_4 : decode cX9_restore 4 = .ok (.lconst 1, 1) := by decide +kernel
theorem dX9_restore_5 : decode cX9_restore 5 = .ok (.invokestatic 37, 3) := by decide +kernel
theorem dX9_restore_8 : decode cX9_restore 8 = .ok (.ifCond .ne 7, 3) := by decide +kernel
theorem dX9_restore_11 : decode cX9_restore 11 = .ok (.iconst 1, 1) := by decide +kernel
theorem dX9_restore_12 : decode cX9_restore 12 = .ok (.goto 17, 3) := by decide +kernel
theorem dX9_restore_15 : decode cX9_restore 15 = .ok (.aload_n 0, 1) := by decide +kernel
theorem dX9_restore_16 : decode cX9_restore 16 = .ok (.getfield 25, 3) := by decide +kernel
theorem dX9_restore_19 : decode cX9_restore 19 = .ok (.iload_n 1, 1) := by decide +kernel
theorem dX9_restore_20 : decode cX9_restore 20 = .ok (.baload, 1) := by decide +kernel
theorem dX9_restore_21 : decode cX9_restore 21 = .ok (.ifCond .ne 7, 3) := by decide +kernel
theorem dX9_restore_24 : decode cX9_restore 24 = .ok (.iconst 2, 1) := by decide +kernel
theorem dX9_restore_25 : decode cX9_restore 25 = .ok (.goto 4, 3) := by decide +kernel
theorem dX9_restore_28 : decode cX9_restore 28 = .ok (.iconst 0, 1) := by decide +kernel
theorem dX9_restore_29 : decode cX9_restore 29 = .ok (.invokevirtual 116, 3) := by decide +kernel
theorem dX9_restore_32 : decode cX9_restore 32 = .ok (.ifCond .eq 5, 3) := by decide +kernel
theorem dX9_restore_35 : decode cX9_restore 35 = .ok (.iconst 0, 1) := by decide +kernel
theorem dX9_restore_36 : decode cX9_restore 36 = .ok (.ireturn, 1) := by decide +kernel
theorem dX9_restore_37 : decode cX9_restore 37 = .ok (.aload_n 0, 1) := by decide +kernel
theorem dX9_restore_38 : decode cX9_restore 38 = .ok (.getfield 22, 3) := by decide +kernel
theorem dX9_restore_41 : decode cX9_restore 41 = .ok (.sipush 383, 3) := by decide +kernel
theorem dX9_restore_44 : decode cX9_restore 44 = .ok (.iload_n 1, 1) := by decide +kernel
theorem dX9_restore_45 : decode cX9_restore 45 = .ok (.imul, 1) := by decide +kernel
theorem dX9_restore_46 : decode cX9_restore 46 = .ok (.aload_n 0, 1) := by decide +kernel
theorem dX9_restore_47 : decode cX9_restore 47 = .ok (.getfield 13, 3) := by decide +kernel
theorem dX9_restore_50 : decode cX9_restore 50 = .ok (.iconst 0, 1) := by decide +kernel
theorem dX9_restore_51 : decode cX9_restore 51 = .ok (.invokestatic 197, 3) := by decide +kernel
theorem dX9_restore_54 : decode cX9_restore 54 = .ok (.aload_n 0, 1) := by decide +kernel
theorem dX9_restore_55 : decode cX9_restore 55 = .ok (.iconst 0, 1) := by decide +kernel
theorem dX9_restore_56 : decode cX9_restore 56 = .ok (.putfield 201, 3) := by decide +kernel
theorem dX9_restore_59 : decode cX9_restore 59 = .ok (.aload_n 0, 1) := by decide +kernel
theorem dX9_restore_60 : decode cX9_restore 60 = .ok (.getfield 13, 3) := by decide +kernel
theorem dX9_restore_63 : decode cX9_restore 63 = .ok (.iconst 1, 1) := by decide +kernel
theorem dX9_restore_64 : decode cX9_restore 64 = .ok (.iaload, 1) := by decide +kernel
theorem dX9_restore_65 : decode cX9_restore 65 = .ok (.ireturn, 1) := by decide +kernel
