set_option maxRecDepth 20000 in
theorem ggX9_init_X9_begin : GoodIn wsX9_init wsX9_begin := goodIn_r _ [15] (by decide +kernel) (by decide +kernel)
set_option maxRecDepth 20000 in
theorem gX9_init_X9_begin : GoodIn wsX9_init (va_wsS RX9 29 yX9_begin wsX9_begin) := goodIn_app (goodIn_of _ (by decide +kernel)) ggX9_init_X9_begin
theorem dX9_init_0 : decode cX9_init 0 = .ok (.aload_n 0, 1) := by decide +kernel
theorem dX9_init_1 : decode cX9_init 1 = .ok (.invokespecial 1, 3) := by decide +kernel
theorem dX9_init_4 : decode cX9_init 4 = .ok (.aload_n 0, 1) := by decide +kernel
theorem dX9_init_5 : decode cX9_init 5 = .ok (.bipush 120, 2) := by decide +kernel
theorem dX9_init_7 : decode cX9_init 7 = .ok (.newarray .int, 2) := by decide +kernel
theorem dX9_init_9 : decode cX9_init 9 = .ok (.putfield 7, 3) := by decide +kernel
theorem dX9_init_12 : decode cX9_init 12 = .ok (.aload_n 0, 1) := by decide +kernel
theorem dX9_init_13 : decode cX9_init 13 = .ok (.sipush 383, 3) := by decide +kernel
theorem dX9_init_16 : decode cX9_init 16 = .ok (.newarray .int, 2) := by decide +kernel
theorem dX9_init_18 : decode cX9_init 18 = .ok (.putfield 13, 3) := by decide +kernel
theorem dX9_init_21 : decode cX9_init 21 = .ok (.aload_n 0, 1) := by decide +kernel
theorem dX9_init_22 : decode cX9_init 22 = .ok (.sipush 383, 3) := by decide +kernel
theorem dX9_init_25 : decode cX9_init 25 = .ok (.newarray .int, 2) := by decide +kernel
theorem dX9_init_27 : decode cX9_init 27 = .ok (.putfield 16, 3) := by decide +kernel
theorem dX9_init_30 : decode cX9_init 30 = .ok (.aload_n 0, 1) := by decide +kernel
theorem dX9_init_31 : decode cX9_init 31 = .ok (.sipush 5362, 3) := by decide +kernel
theorem dX9_init_34 : decode cX9_init 34 = .ok (.newarray .int, 2) := by decide +kernel
theorem dX9_init_36 : decode cX9_init 36 = .ok (.putfield 19, 3) := by decide +kernel
theorem dX9_init_39 : decode cX9_init 39 = .ok (.aload_n 0, 1) := by decide +kernel
theorem dX9_init_40 : decode cX9_init 40 = .ok (.sipush 766, 3) := by decide +kernel
theorem dX9_init_43 : decode cX9_init 43 = .ok (.newarray .int, 2) := by decide +kernel
theorem dX9_init_45 : decode cX9_init 45 = .ok (.putfield 22, 3) := by decide +kernel
theorem dX9_init_48 : decode cX9_init 48 = .ok (.aload_n 0, 1) := by decide +kernel
theorem dX9_init_49 : decode cX9_init 49 = .ok (.iconst 2, 1) := by decide +kernel
theorem dX9_init_50 : decode cX9_init 50 = .ok (.newarray .boolean, 2) := by decide +kernel
theorem dX9_init_52 : decode cX9_init 52 = .ok (.putfield 25, 3) := by decide +kernel
theorem dX9_init_55 : decode cX9_init 55 = .ok (.aload_n 0, 1) := by decide +kernel
theorem dX9_init_56 : decode cX9_init 56 = .ok (.getfield 13, 3) := by decide +kernel
theorem dX9_init_59 : decode cX9_init 59 = .ok (.invokestatic 29, 3) := by decide +kernel
theorem dX9_init_62 : decode cX9_init 62 = .ok (.return_, 1) := by decide +kernel
theorem dX9_begin_0 : decode cX9_begin 0 = .ok (.iconst 0, 1) := by decide +kernel
theorem dX9_begin_1 : decode cX9_begin 1 = .ok (.istore_n 1, 1) := by decide +kernel
theorem dX9_begin_2 : decode cX9_begin 2 = .ok (.iload_n 1, 1) := by decide +kernel
theorem dX9_begin_3 : decode cX9_begin 3 = .ok (.sipush 383, 3) := by decide +kernel
theorem dX9_begin_6 : decode cX9_begin 6 = .ok (.if_icmp .ge 13, 3) := by decide +kernel
theorem dX9_begin_9 : decode cX9_begin 9 = .ok (.aload_n 0, 1) := by decide +kernel
theorem dX9_begin_10 : decode cX9_begin 10 = .ok (.iload_n 1, 1) := by decide +kernel
theorem dX9_begin_11 : decode cX9_begin 11 = .ok (.iconst 0, 1) := by decide +kernel
theorem dX9_begin_12 : decode cX9_begin 12 = .ok (.iastore, 1) := by decide +kernel
theorem dX9_begin_13 : decode cX9_begin 13 = .ok (.iinc 1 1, 3) := by decide +kernel
theorem dX9_begin_16 : decode cX9_begin 16 = .ok (.goto (-14), 3) := by decide +kernel
theorem dX9_begin_19 : decode cX9_begin 19 = .ok (.aload_n 0, 1) := by decide +kernel
theorem dX9_begin_20 : decode cX9_begin 20 = .ok (.iconst 2, 1) := by decide +kernel
theorem dX9_begin_21 : decode cX9_begin 21 = .ok (.iconst 5, 1) := by decide +kernel
theorem dX9_begin_22 : decode cX9_begin 22 = .ok (.iastore, 1) := by decide +kernel
theorem dX9_begin_23 : decode cX9_begin 23 = .ok (.aload_n 0, 1) := by decide +kernel
theorem dX9_begin_24 : decode cX9_begin 24 = .ok (.iconst 3, 1) := by decide +kernel
theorem dX9_begin_25 : decode cX9_begin 25 = .ok (.bipush 100, 2) := by decide +kernel
theorem dX9_begin_27 : decode cX9_begin 27 = .ok (.iastore, 1) := by decide +kernel
theorem dX9_begin_28 : decode cX9_begin 28 = .ok (.aload_n 0, 1) := by decide +kernel
theorem dX9_begin_29 : decode cX9_begin 29 = .ok (.iconst 4, 1) := by decide +kernel
theorem dX9_begin_30 : decode cX9_begin 30 = .ok (.bipush 20, 2) := by decide +kernel
theorem dX9_begin_32 : decode cX9_begin 32 = .ok (.iastore, 1) := by decide +kernel
theorem dX9_begin_33 : decode cX9_begin 33 = .ok (.return_, 1) := by decide +kernel
theorem dX9_thrown_0 : decode cX9_thrown 0 = .ok (.aload_n 0, 1) := by decide +kernel
theorem dX9_thrown_1 : decode cX9_thrown 1 = .ok (.getfield 33, 3) := by decide +kernel
theorem dX9_thrown_4 : decode cX9_thrown 4 = .ok (.ireturn, 1) := by decide +kernel
theorem dX9_refused_0 : decode cX9_refused 0 = .ok (.aload_n 0, 1) := by decide +kernel
theorem dX9_refused_1 : decode cX9_refused 1 = .ok (.iload_n 1, 1) := by decide +kernel
theorem dX9_refused_2 : decode cX9_refused 2 = .ok (.putfield 33, 3) := by decide +kernel
theorem dX9_refused_5 : decode cX9_refused 5 = .ok (.iload_n 1, 1) := by decide +kernel
theorem dX9_refused_6 : decode cX9_refused 6 = .ok (.ifCond .le 7, 3) := by decide +kernel
theorem dX9_refused_9 : decode cX9_refused 9 = .ok (.iconst 1, 1) := by decide +kernel
theorem dX9_refused_10 : decode cX9_refused 10 = .ok (.goto 4, 3) := by decide +kernel
theorem dX9_refused_13 : decode cX9_refused 13 = .ok (.iconst 0, 1) := by decide +kernel
theorem dX9_refused_14 : decode cX9_refused 14 = .ok (.ireturn, 1) := by decide +kernel
theorem dX9_in_0 : decode cX9_in 0 = .ok (.lload_n 0, 1) := by decide +kernel
theorem dX9_in_1 : decode cX9_in 1 = .ok (.lload_n 2, 1) := by decide +kernel
theorem dX9_in_2 : decode cX9_in 2 = .ok (.lcmp, 1) := by decide +kernel
theorem dX9_in_3 : decode cX9_in 3 = .ok (.ifCond .lt 14, 3) := by decide +kernel
theorem dX9_in_6 : decode cX9_in 6 = .ok (.lload_n 0, 1) := by decide +kernel
theorem dX9_in_7 : decode cX9_in 7 = .ok (.lload 4, 2) := by decide +kernel
theorem dX9_in_9 : decode cX9_in 9 = .ok (.lcmp, 1) := by decide +kernel
theorem dX9_in_10 : decode cX9_in 10 = .ok (.ifCond .gt 7, 3) := by decide +kernel
theorem dX9_in_13 : decode cX9_in 13 = .ok (.iconst 1, 1) := by decide +kernel
theorem dX9_in_14 : decode cX9_in 14 = .ok (.goto 4, 3) := by decide +kernel
theorem dX9_in_17 : decode cX9_in 17 = .ok (.iconst 0, 1) := by decide +kernel
theorem dX9_in_18 : decode cX9_in 18 = .ok (.ireturn, 1) := by decide +kernel
theorem dX9_copyState_0 : decode cX9_copyState 0 = .ok (.iconst 0, 1) := by decide +kernel
theorem dX9_copyState_1 : decode cX9_copyState 1 = .ok (.istore 4, 2) := by decide +kernel
theorem dX9_copyState_3 : decode cX9_copyState 3 = .ok (.iload 4, 2) := by decide +kernel
theorem dX9_copyState_5 : decode cX9_copyState 5 = .ok (.sipush 383, 3) := by decide +kernel
theorem dX9_copyState_8 : decode cX9_copyState 8 = .ok (.if_icmp .ge 21, 3) := by decide +kernel
theorem dX9_copyState_11 : decode cX9_copyState 11 = .ok (.aload_n 2, 1) := by decide +kernel
theorem dX9_copyState_12 : decode cX9_copyState 12 = .ok (.iload_n 3, 1) := by decide +kernel
theorem dX9_copyState_13 : decode cX9_copyState 13 = .ok (.iload 4, 2) := by decide +kernel
theorem dX9_copyState_15 : decode cX9_copyState 15 = .ok (.iadd, 1) := by decide +kernel
theorem dX9_copyState_16 : decode cX9_copyState 16 = .ok (.aload_n 0, 1) := by decide +kernel
theorem dX9_copyState_17 : decode cX9_copyState 17 = .ok (.iload_n 1, 1) := by decide +kernel
theorem dX9_copyState_18 : decode cX9_copyState 18 = .ok (.iload 4, 2) := by decide +kernel
theorem dX9_copyState_20 : decode cX9_copyState 20 = .ok (.iadd, 1) := by decide +kernel
theorem dX9_copyState_21 : decode cX9_copyState 21 = .ok (.iaload, 1) := by decide +kernel
theorem dX9_copyState_22 : decode cX9_copyState 22 = .ok (.iastore, 1) := by decide +kernel
theorem dX9_copyState_23 : decode cX9_copyState 23 = .ok (.iinc 4 1, 3) := by decide +kernel
theorem dX9_copyState_26 : decode cX9_copyState 26 = .ok (.goto (-23), 3) := by decide +kernel
theorem dX9_copyState_29 : decode cX9_copyState 29 = .ok (.return_, 1) := by decide +kernel
set_option maxRecDepth 20000 in
theorem ggX9_isUnit_X9_in : GoodIn wsX9_isUnit wsX9_in := goodIn_r _ [4] (by decide +kernel) (by decide +kernel)
set_option maxRecDepth 20000 in
theorem gX9_isUnit_X9_in : GoodIn wsX9_isUnit (va_wsS RX9 37 yX9_in wsX9_in) := goodIn_app (goodIn_of _ (by decide +kernel)) ggX9_isUnit_X9_in
theorem dX9_isUnit_0 : decode cX9_isUnit 0 = .ok (.iload_n 1, 1) := by decide +kernel
theorem dX9_isUnit_1 : decode cX9_isUnit 1 = .ok (.i2l, 1) := by decide +kernel
theorem dX9_isUnit_2 : decode cX9_isUnit 2 = .ok (.lconst 0, 1) := by decide +kernel
theorem dX9_isUnit_3 : decode cX9_isUnit 3 = .ok (.aload_n 0, 1) := by decide +kernel
theorem dX9_isUnit_4 : decode cX9_isUnit 4 = .ok (.iconst 1, 1) := by decide +kernel
theorem dX9_isUnit_5 : decode cX9_isUnit 5 = .ok (.iaload, 1) := by decide +kernel
theorem dX9_isUnit_6 : decode cX9_isUnit 6 = .ok (.iconst 1, 1) := by decide +kernel
theorem dX9_isUnit_7 : decode cX9_isUnit 7 = .ok (.isub, 1) := by decide +kernel
theorem dX9_isUnit_8 : decode cX9_isUnit 8 = .ok (.i2l, 1) := by decide +kernel
theorem dX9_isUnit_9 : decode cX9_isUnit 9 = .ok (.invokestatic 37, 3) := by decide +kernel
theorem dX9_isUnit_12 : decode cX9_isUnit 12 = .ok (.ireturn, 1) := by decide +kernel
set_option maxRecDepth 20000 in
theorem ggX9_isHolder_X9_in : GoodIn wsX9_isHolder wsX9_in := goodIn_r _ [5] (by decide +kernel) (by decide +kernel)
set_option maxRecDepth 20000 in
theorem gX9_isHolder_X9_in : GoodIn wsX9_isHolder (va_wsS RX9 37 yX9_in wsX9_in) := goodIn_app (goodIn_of _ (by decide +kernel)) ggX9_isHolder_X9_in
theorem dX9_isHolder_0 : decode cX9_isHolder 0 = .ok (.iload_n 0, 1) := by decide +kernel
theorem dX9_isHolder_1 : decode cX9_isHolder 1 = .ok (.i2l, 1) := by decide +kernel
theorem dX9_isHolder_2 : decode cX9_isHolder 2 = .ok (.lconst 0, 1) := by decide +kernel
theorem dX9_isHolder_3 : decode cX9_isHolder 3 = .ok (.ldc2_w 41, 3) := by decide +kernel
theorem dX9_isHolder_6 : decode cX9_isHolder 6 = .ok (.invokestatic 37, 3) := by decide +kernel
theorem dX9_isHolder_9 : decode cX9_isHolder 9 = .ok (.ireturn, 1) := by decide +kernel
set_option maxRecDepth 20000 in
theorem ggX9_isKind_X9_in : GoodIn wsX9_isKind wsX9_in := goodIn_r _ [5] (by decide +kernel) (by decide +kernel)
set_option maxRecDepth 20000 in
theorem gX9_isKind_X9_in : GoodIn wsX9_isKind (va_wsS RX9 37 yX9_in wsX9_in) := goodIn_app (goodIn_of _ (by decide +kernel)) ggX9_isKind_X9_in
theorem dX9_isKind_0 : decode cX9_isKind 0 = .ok (.iload_n 0, 1) := by decide +kernel
theorem dX9_isKind_1 : decode cX9_isKind 1 = .ok (.i2l, 1) := by decide +kernel
theorem dX9_isKind_2 : decode cX9_isKind 2 = .ok (.lconst 0, 1) := by decide +kernel
theorem dX9_isKind_3 : decode cX9_isKind 3 = .ok (.ldc2_w 43, 3) := by decide +kernel
theorem dX9_isKind_6 : decode cX9_isKind 6 = .ok (.invokestatic 37, 3) := by decide +kernel
theorem dX9_isKind_9 : decode cX9_isKind 9 = .ok (.ireturn, 1) := by decide +kernel
set_option maxRecDepth 20000 in
theorem ggX9_isPart_X9_in : GoodIn wsX9_isPart wsX9_in := goodIn_r _ [5] (by decide +kernel) (by decide +kernel)
set_option maxRecDepth 20000 in
theorem gX9_isPart_X9_in : GoodIn wsX9_isPart (va_wsS RX9 37 yX9_in wsX9_in) := goodIn_app (goodIn_of _ (by decide +kernel)) ggX9_isPart_X9_in
theorem dX9_isPart_0 : decode cX9_isPart 0 = .ok (.iload_n 0, 1) := by decide +kernel
theorem dX9_isPart_1 : decode cX9_isPart 1 = .ok (.i2l, 1) := by decide +kernel
theorem dX9_isPart_2 : decode cX9_isPart 2 = .ok (.lconst 0, 1) := by decide +kernel
theorem dX9_isPart_3 : decode cX9_isPart 3 = .ok (.ldc2_w 43, 3) := by decide +kernel
theorem dX9_isPart_6 : decode cX9_isPart 6 = .ok (.invokestatic 37, 3) := by decide +kernel
theorem dX9_isPart_9 : decode cX9_isPart 9 = .ok (.ireturn, 1) := by decide +kernel
theorem dX9_of_0 : decode cX9_of 0 = .ok (.aload_n 0, 1) := by decide +kernel
theorem dX9_of_1 : decode cX9_of 1 = .ok (.bipush 8, 2) := by decide +kernel
theorem dX9_of_3 : decode cX9_of 3 = .ok (.iconst 5, 1) := by decide +kernel
theorem dX9_of_4 : decode cX9_of 4 = .ok (.iload_n 1, 1) := by decide +kernel
theorem dX9_of_5 : decode cX9_of 5 = .ok (.imul, 1) := by decide +kernel
theorem dX9_of_6 : decode cX9_of 6 = .ok (.iadd, 1) := by decide +kernel
theorem dX9_of_7 : decode cX9_of 7 = .ok (.iload_n 2, 1) := by decide +kernel
theorem dX9_of_8 : decode cX9_of 8 = .ok (.iadd, 1) := by decide +kernel
theorem dX9_of_9 : decode cX9_of 9 = .ok (.iaload, 1) := by decide +kernel
theorem dX9_of_10 : decode cX9_of 10 = .ok (.ireturn, 1) := by decide +kernel
theorem dX9_lay_0 : decode cX9_lay 0 = .ok (.aload_n 0, 1) := by decide +kernel
theorem dX9_lay_1 : decode cX9_lay 1 = .ok (.bipush 8, 2) := by decide +kernel
theorem dX9_lay_3 : decode cX9_lay 3 = .ok (.iconst 5, 1) := by decide +kernel
theorem dX9_lay_4 : decode cX9_lay 4 = .ok (.iload_n 1, 1) := by decide +kernel
theorem dX9_lay_5 : decode cX9_lay 5 = .ok (.imul, 1) := by decide +kernel
theorem dX9_lay_6 : decode cX9_lay 6 = .ok (.iadd, 1) := by decide +kernel
theorem dX9_lay_7 : decode cX9_lay 7 = .ok (.iload_n 2, 1) := by decide +kernel
theorem dX9_lay_8 : decode cX9_lay 8 = .ok (.iadd, 1) := by decide +kernel
theorem dX9_lay_9 : decode cX9_lay 9 = .ok (.iload_n 3, 1) := by decide +kernel
theorem dX9_lay_10 : decode cX9_lay 10 = .ok (.iastore, 1) := by decide +kernel
theorem dX9_lay_11 : decode cX9_lay 11 = .ok (.return_, 1) := by decide +kernel
set_option maxRecDepth 20000 in
theorem ggX9_isFree_X9_of : GoodIn wsX9_isFree wsX9_of := goodIn_r _ [4] (by decide +kernel) (by decide +kernel)
set_option maxRecDepth 20000 in
theorem gX9_isFree_X9_of : GoodIn wsX9_isFree (va_wsS RX9 45 yX9_of wsX9_of) := goodIn_app (goodIn_of _ (by decide +kernel)) ggX9_isFree_X9_of
theorem dX9_isFree_0 : decode cX9_isFree 0 = .ok (.aload_n 0, 1) := by decide +kernel
theorem dX9_isFree_1 : decode cX9_isFree 1 = .ok (.iload_n 1, 1) := by decide +kernel
theorem dX9_isFree_2 : decode cX9_isFree 2 = .ok (.iconst 1, 1) := by decide +kernel
theorem dX9_isFree_3 : decode cX9_isFree 3 = .ok (.invokestatic 45, 3) := by decide +kernel
theorem dX9_isFree_6 : decode cX9_isFree 6 = .ok (.aload_n 0, 1) := by decide +kernel
theorem dX9_isFree_7 : decode cX9_isFree 7 = .ok (.iload_n 1, 1) := by decide +kernel
theorem dX9_isFree_8 : decode cX9_isFree 8 = .ok (.iconst 2, 1) := by decide +kernel
theorem dX9_isFree_9 : decode cX9_isFree 9 = .ok (.invokestatic 45, 3) := by decide +kernel
theorem dX9_isFree_12 : decode cX9_isFree 12 = .ok (.if_icmp .ne 7, 3) := by decide +kernel
theorem dX9_isFree_15 : decode cX9_isFree 15 = .ok (.iconst 1, 1) := by decide +kernel
theorem dX9_isFree_16 : decode cX9_isFree 16 = .ok (.goto 4, 3) := by decide +kernel
theorem dX9_isFree_19 : decode cX9_isFree 19 = .ok (.iconst 0, 1) := by decide +kernel
theorem dX9_isFree_20 : decode cX9_isFree 20 = .ok (.ireturn, 1) := by decide +kernel
set_option maxRecDepth 20000 in
theorem ggX9_missing_X9_of : GoodIn wsX9_missing wsX9_of := goodIn_r _ [4] (by decide +kernel) (by decide +kernel)
set_option maxRecDepth 20000 in
theorem gX9_missing_X9_of : GoodIn wsX9_missing (va_wsS RX9 45 yX9_of wsX9_of) := goodIn_app (goodIn_of _ (by decide +kernel)) ggX9_missing_X9_of
theorem dX9_missing_0 : decode cX9_missing 0 = .ok (.aload_n 0, 1) := by decide +kernel
theorem dX9_missing_1 : decode cX9_missing 1 = .ok (.iload_n 1, 1) := by decide +kernel
theorem dX9_missing_2 : decode cX9_missing 2 = .ok (.iconst 3, 1) := by decide +kernel
theorem dX9_missing_3 : decode cX9_missing 3 = .ok (.invokestatic 45, 3) := by decide +kernel
theorem dX9_missing_6 : decode cX9_missing 6 = .ok (.istore_n 2, 1) := by decide +kernel
theorem dX9_missing_7 : decode cX9_missing 7 = .ok (.iconst 3, 1) := by decide +kernel
theorem dX9_missing_8 : decode cX9_missing 8 = .ok (.iload_n 2, 1) := by decide +kernel
theorem dX9_missing_9 : decode cX9_missing 9 = .ok (.iconst 1, 1) := by decide +kernel
theorem dX9_missing_10 : decode cX9_missing 10 = .ok (.iand, 1) := by decide +kernel
theorem dX9_missing_11 : decode cX9_missing 11 = .ok (.isub, 1) := by decide +kernel
theorem dX9_missing_12 : decode cX9_missing 12 = .ok (.iload_n 2, 1) := by decide +kernel
theorem dX9_missing_13 : decode cX9_missing 13 = .ok (.iconst 1, 1) := by decide +kernel
theorem dX9_missing_14 : decode cX9_missing 14 = .ok (.ishr, 1) := by decide +kernel
theorem dX9_missing_15 : decode cX9_missing 15 = .ok (.iconst 1, 1) := by decide +kernel
theorem dX9_missing_16 : decode cX9_missing 16 = .ok (.iand, 1) := by decide +kernel
theorem dX9_missing_17 : decode cX9_missing 17 = .ok (.isub, 1) := by decide +kernel
theorem dX9_missing_18 : decode cX9_missing 18 = .ok (.iload_n 2, 1) := by decide +kernel
theorem dX9_missing_19 : decode cX9_missing 19 = .ok (.iconst 2, 1) := by decide +kernel
theorem dX9_missing_20 : decode cX9_missing 20 = .ok (.ishr, 1) := by decide +kernel
theorem dX9_missing_21 : decode cX9_missing 21 = .ok (.iconst 1, 1) := by decide +kernel
theorem dX9_missing_22 : decode cX9_missing 22 = .ok (.iand, 1) := by decide +kernel
theorem dX9_missing_23 : decode cX9_missing 23 = .ok (.isub, 1) := by decide +kernel
theorem dX9_missing_24 : decode cX9_missing 24 = .ok (.ireturn, 1) := by decide +kernel
theorem dX9_owedAt_0 : decode cX9_owedAt 0 = .ok (.bipush 93, 2) := by decide +kernel
theorem dX9_owedAt_2 : decode cX9_owedAt 2 = .ok (.bipush 45, 2) := by decide +kernel
theorem dX9_owedAt_4 : decode cX9_owedAt 4 = .ok (.iload_n 0, 1) := by decide +kernel
theorem dX9_owedAt_5 : decode cX9_owedAt 5 = .ok (.imul, 1) := by decide +kernel
theorem dX9_owedAt_6 : decode cX9_owedAt 6 = .ok (.iadd, 1) := by decide +kernel
theorem dX9_owedAt_7 : decode cX9_owedAt 7 = .ok (.bipush 9, 2) := by decide +kernel
theorem dX9_owedAt_9 : decode cX9_owedAt 9 = .ok (.iload_n 1, 1) := by decide +kernel
theorem dX9_owedAt_10 : decode cX9_owedAt 10 = .ok (.imul, 1) := by decide +kernel
theorem dX9_owedAt_11 : decode cX9_owedAt 11 = .ok (.iadd, 1) := by decide +kernel
theorem dX9_owedAt_12 : decode cX9_owedAt 12 = .ok (.iconst 3, 1) := by decide +kernel
theorem dX9_owedAt_13 : decode cX9_owedAt 13 = .ok (.iload_n 2, 1) := by decide +kernel
theorem dX9_owedAt_14 : decode cX9_owedAt 14 = .ok (.imul, 1) := by decide +kernel
theorem dX9_owedAt_15 : decode cX9_owedAt 15 = .ok (.iadd, 1) := by decide +kernel
theorem dX9_owedAt_16 : decode cX9_owedAt 16 = .ok (.iload_n 3, 1) := by decide +kernel
theorem dX9_owedAt_17 : decode cX9_owedAt 17 = .ok (.iadd, 1) := by decide +kernel
theorem dX9_owedAt_18 : decode cX9_owedAt 18 = .ok (.ireturn, 1) := by decide +kernel
theorem dX9_coresAt_0 : decode cX9_coresAt 0 = .ok (.sipush 318, 3) := by decide +kernel
theorem dX9_coresAt_3 : decode cX9_coresAt 3 = .ok (.bipush 13, 2) := by decide +kernel
theorem dX9_coresAt_5 : decode cX9_coresAt 5 = .ok (.iload_n 0, 1) := by decide +kernel
theorem dX9_coresAt_6 : decode cX9_coresAt 6 = .ok (.imul, 1) := by decide +kernel
theorem dX9_coresAt_7 : decode cX9_coresAt 7 = .ok (.iadd, 1) := by decide +kernel
theorem dX9_coresAt_8 : decode cX9_coresAt 8 = .ok (.ireturn, 1) := by decide +kernel
theorem dX9_late_0 : decode cX9_late 0 = .ok (.aload_n 0, 1) := by decide +kernel
theorem dX9_late_1 : decode cX9_late 1 = .ok (.iconst 0, 1) := by decide +kernel
theorem dX9_late_2 : decode cX9_late 2 = .ok (.iaload, 1) := by decide +kernel
theorem dX9_late_3 : decode cX9_late 3 = .ok (.iload_n 2, 1) := by decide +kernel
theorem dX9_late_4 : decode cX9_late 4 = .ok (.iadd, 1) := by decide +kernel
theorem dX9_late_5 : decode cX9_late 5 = .ok (.iload_n 1, 1) := by decide +kernel
theorem dX9_late_6 : decode cX9_late 6 = .ok (.isub, 1) := by decide +kernel
theorem dX9_late_7 : decode cX9_late 7 = .ok (.istore_n 3, 1) := by decide +kernel
theorem dX9_late_8 : decode cX9_late 8 = .ok (.iload_n 3, 1) := by decide +kernel
theorem dX9_late_9 : decode cX9_late 9 = .ok (.ifCond .le 11, 3) := by decide +kernel
theorem dX9_late_12 : decode cX9_late 12 = .ok (.iload_n 3, 1) := by decide +kernel
theorem dX9_late_13 : decode cX9_late 13 = .ok (.aload_n 0, 1) := by decide +kernel
theorem dX9_late_14 : decode cX9_late 14 = .ok (.iconst 2, 1) := by decide +kernel
theorem dX9_late_15 : decode cX9_late 15 = .ok (.iaload, 1) := by decide +kernel
theorem dX9_late_16 : decode cX9_late 16 = .ok (.imul, 1) := by decide +kernel
theorem dX9_late_17 : decode cX9_late 17 = .ok (.goto 4, 3) := by decide +kernel
theorem dX9_late_20 : decode cX9_late 20 = .ok (.iconst 0, 1) := by decide +kernel
theorem dX9_late_21 : decode cX9_late 21 = .ok (.ireturn, 1) := by decide +kernel
set_option maxRecDepth 20000 in
theorem ggX9_lateOf_X9_isFree : GoodIn wsX9_lateOf wsX9_isFree := goodIn_r _ [4, 5, 6, 3, 7] (by decide +kernel) (by decide +kernel)
set_option maxRecDepth 20000 in
theorem gX9_lateOf_X9_isFree : GoodIn wsX9_lateOf (va_wsS RX9 49 yX9_isFree wsX9_isFree) := goodIn_app (goodIn_of _ (by decide +kernel)) ggX9_lateOf_X9_isFree
set_option maxRecDepth 20000 in
theorem ggX9_lateOf_X9_of : GoodIn wsX9_lateOf wsX9_of := goodIn_r _ [7] (by decide +kernel) (by decide +kernel)
set_option maxRecDepth 20000 in
theorem gX9_lateOf_X9_of : GoodIn wsX9_lateOf (va_wsS RX9 45 yX9_of wsX9_of) := goodIn_app (goodIn_of _ (by decide +kernel)) ggX9_lateOf_X9_of
set_option maxRecDepth 20000 in
theorem ggX9_lateOf_X9_late : GoodIn wsX9_lateOf wsX9_late := goodIn_r _ [10] (by decide +kernel) (by decide +kernel)
set_option maxRecDepth 20000 in
theorem gX9_lateOf_X9_late : GoodIn wsX9_lateOf (va_wsS RX9 53 yX9_late wsX9_late) := goodIn_app (goodIn_of _ (by decide +kernel)) ggX9_lateOf_X9_late
theorem dX9_lateOf_0 : decode cX9_lateOf 0 = .ok (.aload_n 0, 1) := by decide +kernel
theorem dX9_lateOf_1 : decode cX9_lateOf 1 = .ok (.iload_n 1, 1) := by decide +kernel
theorem dX9_lateOf_2 : decode cX9_lateOf 2 = .ok (.invokestatic 49, 3) := by decide +kernel
theorem dX9_lateOf_5 : decode cX9_lateOf 5 = .ok (.ifCond .eq 7, 3) := by decide +kernel
theorem dX9_lateOf_8 : decode cX9_lateOf 8 = .ok (.iconst 0, 1) := by decide +kernel
theorem dX9_lateOf_9 : decode cX9_lateOf 9 = .ok (.goto 14, 3) := by decide +kernel
theorem dX9_lateOf_12 : decode cX9_lateOf 12 = .ok (.aload_n 0, 1) := by decide +kernel
theorem dX9_lateOf_13 : decode cX9_lateOf 13 = .ok (.aload_n 0, 1) := by decide +kernel
theorem dX9_lateOf_14 : decode cX9_lateOf 14 = .ok (.iload_n 1, 1) := by decide +kernel
theorem dX9_lateOf_15 : decode cX9_lateOf 15 = .ok (.iconst 4, 1) := by decide +kernel
theorem dX9_lateOf_16 : decode cX9_lateOf 16 = .ok (.invokestatic 45, 3) := by decide +kernel
theorem dX9_lateOf_19 : decode cX9_lateOf 19 = .ok (.iload_n 2, 1) := by decide +kernel
theorem dX9_lateOf_20 : decode cX9_lateOf 20 = .ok (.invokestatic 53, 3) := by decide +kernel
theorem dX9_lateOf_23 : decode cX9_lateOf 23 = .ok (.ireturn, 1) := by decide +kernel
theorem dX9_pays_0 : decode cX9_pays 0 = .ok (.aload_n 0, 1) := by decide +kernel
theorem dX9_pays_1 : decode cX9_pays 1 = .ok (.bipush 88, 2) := by decide +kernel
theorem dX9_pays_3 : decode cX9_pays 3 = .ok (.iload_n 1, 1) := by decide +kernel
theorem dX9_pays_4 : decode cX9_pays 4 = .ok (.iadd, 1) := by decide +kernel
theorem dX9_pays_5 : decode cX9_pays 5 = .ok (.dup2, 1) := by decide +kernel
theorem dX9_pays_6 : decode cX9_pays 6 = .ok (.iaload, 1) := by decide +kernel
theorem dX9_pays_7 : decode cX9_pays 7 = .ok (.iload_n 3, 1) := by decide +kernel
theorem dX9_pays_8 : decode cX9_pays 8 = .ok (.isub, 1) := by decide +kernel
theorem dX9_pays_9 : decode cX9_pays 9 = .ok (.iastore, 1) := by decide +kernel
theorem dX9_pays_10 : decode cX9_pays 10 = .ok (.aload_n 0, 1) := by decide +kernel
theorem dX9_pays_11 : decode cX9_pays 11 = .ok (.bipush 88, 2) := by decide +kernel
theorem dX9_pays_13 : decode cX9_pays 13 = .ok (.iload_n 2, 1) := by decide +kernel
theorem dX9_pays_14 : decode cX9_pays 14 = .ok (.iadd, 1) := by decide +kernel
theorem dX9_pays_15 : decode cX9_pays 15 = .ok (.dup2, 1) := by decide +kernel
theorem dX9_pays_16 : decode cX9_pays 16 = .ok (.iaload, 1) := by decide +kernel
theorem dX9_pays_17 : decode cX9_pays 17 = .ok (.iload_n 3, 1) := by decide +kernel
theorem dX9_pays_18 : decode cX9_pays 18 = .ok (.iadd, 1) := by decide +kernel
theorem dX9_pays_19 : decode cX9_pays 19 = .ok (.iastore, 1) := by decide +kernel
theorem dX9_pays_20 : decode cX9_pays 20 = .ok (.return_, 1) := by decide +kernel
set_option maxRecDepth 20000 in
theorem ggX9_whyNotCome_X9_isKind : GoodIn wsX9_whyNotCome wsX9_isKind := goodIn_r _ [5, 6, 7, 8, 4, 9] (by decide +kernel) (by decide +kernel)
set_option maxRecDepth 20000 in
theorem gX9_whyNotCome_X9_isKind : GoodIn wsX9_whyNotCome (va_wsS RX9 56 yX9_isKind wsX9_isKind) := goodIn_app (goodIn_of _ (by decide +kernel)) ggX9_whyNotCome_X9_isKind
set_option maxRecDepth 20000 in
theorem ggX9_whyNotCome_X9_isHolder : GoodIn wsX9_whyNotCome wsX9_isHolder := goodIn_r _ [12, 13, 7, 8, 4, 9] (by decide +kernel) (by decide +kernel)
set_option maxRecDepth 20000 in
theorem gX9_whyNotCome_X9_isHolder : GoodIn wsX9_whyNotCome (va_wsS RX9 60 yX9_isHolder wsX9_isHolder) := goodIn_app (goodIn_of _ (by decide +kernel)) ggX9_whyNotCome_X9_isHolder
set_option maxRecDepth 20000 in
theorem ggX9_whyNotCome_X9_in : GoodIn wsX9_whyNotCome wsX9_in := goodIn_r _ [9] (by decide +kernel) (by decide +kernel)
set_option maxRecDepth 20000 in
theorem gX9_whyNotCome_X9_in : GoodIn wsX9_whyNotCome (va_wsS RX9 37 yX9_in wsX9_in) := goodIn_app (goodIn_of _ (by decide +kernel)) ggX9_whyNotCome_X9_in
theorem dX9_whyNotCome_0 : decode cX9_whyNotCome 0 = .ok (.iload_n 1, 1) := by decide +kernel
theorem dX9_whyNotCome_1 : decode cX9_whyNotCome 1 = .ok (.invokestatic 56, 3) := by decide +kernel
theorem dX9_whyNotCome_4 : decode cX9_whyNotCome 4 = .ok (.ifCond .eq 10, 3) := by decide +kernel
theorem dX9_whyNotCome_7 : decode cX9_whyNotCome 7 = .ok (.iload_n 2, 1) := by decide +kernel
theorem dX9_whyNotCome_8 : decode cX9_whyNotCome 8 = .ok (.invokestatic 60, 3) := by decide +kernel
theorem dX9_whyNotCome_11 : decode cX9_whyNotCome 11 = .ok (.ifCond .ne 7, 3) := by decide +kernel
theorem dX9_whyNotCome_14 : decode cX9_whyNotCome 14 = .ok (.iconst 1, 1) := by decide +kernel
theorem dX9_whyNotCome_15 : decode cX9_whyNotCome 15 = .ok (.goto 32, 3) := by decide +kernel
theorem dX9_whyNotCome_18 : decode cX9_whyNotCome 18 = .ok (.iload_n 3, 1) := by decide +kernel
theorem dX9_whyNotCome_19 : decode cX9_whyNotCome 19 = .ok (.i2l, 1) := by decide +kernel
theorem dX9_whyNotCome_20 : decode cX9_whyNotCome 20 = .ok (.lconst 0, 1) := by decide +kernel
theorem dX9_whyNotCome_21 : decode cX9_whyNotCome 21 = .ok (.ldc2_w 63, 3) := by decide +kernel
theorem dX9_whyNotCome_24 : decode cX9_whyNotCome 24 = .ok (.invokestatic 37, 3) := by decide +kernel
theorem dX9_whyNotCome_27 : decode cX9_whyNotCome 27 = .ok (.ifCond .ne 7, 3) := by decide +kernel
theorem dX9_whyNotCome_30 : decode cX9_whyNotCome 30 = .ok (.iconst 2, 1) := by decide +kernel
theorem dX9_whyNotCome_31 : decode cX9_whyNotCome 31 = .ok (.goto 16, 3) := by decide +kernel
theorem dX9_whyNotCome_34 : decode cX9_whyNotCome 34 = .ok (.aload_n 0, 1) := by decide +kernel
theorem dX9_whyNotCome_35 : decode cX9_whyNotCome 35 = .ok (.iconst 1, 1) := by decide +kernel
theorem dX9_whyNotCome_36 : decode cX9_whyNotCome 36 = .ok (.iaload, 1) := by decide +kernel
theorem dX9_whyNotCome_37 : decode cX9_whyNotCome 37 = .ok (.bipush 16, 2) := by decide +kernel
theorem dX9_whyNotCome_39 : decode cX9_whyNotCome 39 = .ok (.if_icmp .ne 7, 3) := by decide +kernel
theorem dX9_whyNotCome_42 : decode cX9_whyNotCome 42 = .ok (.iconst 3, 1) := by decide +kernel
theorem dX9_whyNotCome_43 : decode cX9_whyNotCome 43 = .ok (.goto 4, 3) := by decide +kernel
theorem dX9_whyNotCome_46 : decode cX9_whyNotCome 46 = .ok (.iconst 0, 1) := by decide +kernel
theorem dX9_whyNotCome_47 : decode cX9_whyNotCome 47 = .ok (.ireturn, 1) := by decide +kernel
set_option maxRecDepth 20000 in
theorem ggX9_comeOn_X9_lay : GoodIn wsX9_comeOn wsX9_lay := goodIn_r _ [4] (by decide +kernel) (by decide +kernel)
set_option maxRecDepth 20000 in
theorem gX9_comeOn_X9_lay : GoodIn wsX9_comeOn (va_wsS RX9 65 yX9_lay wsX9_lay) := goodIn_app (goodIn_of _ (by decide +kernel)) ggX9_comeOn_X9_lay
theorem dX9_comeOn_0 : decode cX9_comeOn 0 = .ok (.aload_n 0, 1) := by decide +kernel
theorem dX9_comeOn_1 : decode cX9_comeOn 1 = .ok (.iconst 1, 1) := by decide +kernel
theorem dX9_comeOn_2 : decode cX9_comeOn 2 = .ok (.iaload, 1) := by decide +kernel
theorem dX9_comeOn_3 : decode cX9_comeOn 3 = .ok (.istore 4, 2) := by decide +kernel
theorem dX9_comeOn_5 : decode cX9_comeOn 5 = .ok (.aload_n 0, 1) := by decide +kernel
theorem dX9_comeOn_6 : decode cX9_comeOn 6 = .ok (.iload 4, 2) := by decide +kernel
theorem dX9_comeOn_8 : decode cX9_comeOn 8 = .ok (.iconst 0, 1) := by decide +kernel
theorem dX9_comeOn_9 : decode cX9_comeOn 9 = .ok (.iload_n 1, 1) := by decide +kernel
theorem dX9_comeOn_10 : decode cX9_comeOn 10 = .ok (.invokestatic 65, 3) := by decide +kernel
theorem dX9_comeOn_13 : decode cX9_comeOn 13 = .ok (.aload_n 0, 1) := by decide +kernel
theorem dX9_comeOn_14 : decode cX9_comeOn 14 = .ok (.iload 4, 2) := by decide +kernel
theorem dX9_comeOn_16 : decode cX9_comeOn 16 = .ok (.iconst 1, 1) := by decide +kernel
theorem dX9_comeOn_17 : decode cX9_comeOn 17 = .ok (.iload_n 2, 1) := by decide +kernel
theorem dX9_comeOn_18 : decode cX9_comeOn 18 = .ok (.invokestatic 65, 3) := by decide +kernel
theorem dX9_comeOn_21 : decode cX9_comeOn 21 = .ok (.aload_n 0, 1) := by decide +kernel
theorem dX9_comeOn_22 : decode cX9_comeOn 22 = .ok (.iload 4, 2) := by decide +kernel
theorem dX9_comeOn_24 : decode cX9_comeOn 24 = .ok (.iconst 2, 1) := by decide +kernel
theorem dX9_comeOn_25 : decode cX9_comeOn 25 = .ok (.iload_n 2, 1) := by decide +kernel
theorem dX9_comeOn_26 : decode cX9_comeOn 26 = .ok (.invokestatic 65, 3) := by decide +kernel
theorem dX9_comeOn_29 : decode cX9_comeOn 29 = .ok (.aload_n 0, 1) := by decide +kernel
theorem dX9_comeOn_30 : decode cX9_comeOn 30 = .ok (.iload 4, 2) := by decide +kernel
theorem dX9_comeOn_32 : decode cX9_comeOn 32 = .ok (.iconst 3, 1) := by decide +kernel
theorem dX9_comeOn_33 : decode cX9_comeOn 33 = .ok (.iload_n 3, 1) := by decide +kernel
theorem dX9_comeOn_34 : decode cX9_comeOn 34 = .ok (.invokestatic 65, 3) := by decide +kernel
theorem dX9_comeOn_37 : decode cX9_comeOn 37 = .ok (.aload_n 0, 1) := by decide +kernel
theorem dX9_comeOn_38 : decode cX9_comeOn 38 = .ok (.iload 4, 2) := by decide +kernel
theorem dX9_comeOn_40 : decode cX9_comeOn 40 = .ok (.iconst 4, 1) := by decide +kernel
theorem dX9_comeOn_41 : decode cX9_comeOn 41 = .ok (.iconst 0, 1) := by decide +kernel
theorem dX9_comeOn_42 : decode cX9_comeOn 42 = .ok (.invokestatic 65, 3) := by decide +kernel
theorem dX9_comeOn_45 : decode cX9_comeOn 45 = .ok (.aload_n 0, 1) := by decide +kernel
theorem dX9_comeOn_46 : decode cX9_comeOn 46 = .ok (.iconst 1, 1) := by decide +kernel
theorem dX9_comeOn_47 : decode cX9_comeOn 47 = .ok (.dup2, 1) := by decide +kernel
theorem dX9_comeOn_48 : decode cX9_comeOn 48 = .ok (.iaload, 1) := by decide +kernel
theorem dX9_comeOn_49 : decode cX9_comeOn 49 = .ok (.iconst 1, 1) := by decide +kernel
theorem dX9_comeOn_50 : decode cX9_comeOn 50 = .ok (.iadd, 1) := by decide +kernel
theorem dX9_comeOn_51 : decode cX9_comeOn 51 = .ok (.iastore, 1) := by decide +kernel
theorem dX9_comeOn_52 : decode cX9_comeOn 52 = .ok (.iload 4, 2) := by decide +kernel
theorem dX9_comeOn_54 : decode cX9_comeOn 54 = .ok (.ireturn, 1) := by decide +kernel
set_option maxRecDepth 20000 in
theorem ggX9_whyNotLend_X9_isUnit : GoodIn wsX9_whyNotLend wsX9_isUnit := goodIn_r _ [5, 6, 7, 4, 8] (by decide +kernel) (by decide +kernel)
set_option maxRecDepth 20000 in
theorem gX9_whyNotLend_X9_isUnit : GoodIn wsX9_whyNotLend (va_wsS RX9 69 yX9_isUnit wsX9_isUnit) := goodIn_app (goodIn_of _ (by decide +kernel)) ggX9_whyNotLend_X9_isUnit
set_option maxRecDepth 20000 in
theorem ggX9_whyNotLend_X9_isHolder : GoodIn wsX9_whyNotLend wsX9_isHolder := goodIn_r _ [11, 12, 6, 7, 4, 8] (by decide +kernel) (by decide +kernel)
set_option maxRecDepth 20000 in
theorem gX9_whyNotLend_X9_isHolder : GoodIn wsX9_whyNotLend (va_wsS RX9 60 yX9_isHolder wsX9_isHolder) := goodIn_app (goodIn_of _ (by decide +kernel)) ggX9_whyNotLend_X9_isHolder
set_option maxRecDepth 20000 in
theorem ggX9_whyNotLend_X9_in : GoodIn wsX9_whyNotLend wsX9_in := goodIn_r _ [8] (by decide +kernel) (by decide +kernel)
set_option maxRecDepth 20000 in
theorem gX9_whyNotLend_X9_in : GoodIn wsX9_whyNotLend (va_wsS RX9 37 yX9_in wsX9_in) := goodIn_app (goodIn_of _ (by decide +kernel)) ggX9_whyNotLend_X9_in
set_option maxRecDepth 20000 in
theorem ggX9_whyNotLend_X9_isFree : GoodIn wsX9_whyNotLend wsX9_isFree := goodIn_r _ [15, 16, 17, 4, 18] (by decide +kernel) (by decide +kernel)
set_option maxRecDepth 20000 in
theorem gX9_whyNotLend_X9_isFree : GoodIn wsX9_whyNotLend (va_wsS RX9 49 yX9_isFree wsX9_isFree) := goodIn_app (goodIn_of _ (by decide +kernel)) ggX9_whyNotLend_X9_isFree
set_option maxRecDepth 20000 in
theorem ggX9_whyNotLend_X9_of : GoodIn wsX9_whyNotLend wsX9_of := goodIn_r _ [18] (by decide +kernel) (by decide +kernel)
set_option maxRecDepth 20000 in
theorem gX9_whyNotLend_X9_of : GoodIn wsX9_whyNotLend (va_wsS RX9 45 yX9_of wsX9_of) := goodIn_app (goodIn_of _ (by decide +kernel)) ggX9_whyNotLend_X9_of
theorem dX9_whyNotLend_0 : decode cX9_whyNotLend 0 = .ok (.aload_n 0, 1) := by decide +kernel
theorem dX9_whyNotLend_1 : decode cX9_whyNotLend 1 = .ok (.iload_n 1, 1) := by decide +kernel
theorem dX9_whyNotLend_2 : decode cX9_whyNotLend 2 = .ok (.invokestatic 69, 3) := by decide +kernel
theorem dX9_whyNotLend_5 : decode cX9_whyNotLend 5 = .ok (.ifCond .eq 10, 3) := by decide +kernel
theorem dX9_whyNotLend_8 : decode cX9_whyNotLend 8 = .ok (.iload_n 2, 1) := by decide +kernel
theorem dX9_whyNotLend_9 : decode cX9_whyNotLend 9 = .ok (.invokestatic 60, 3) := by decide +kernel
theorem dX9_whyNotLend_12 : decode cX9_whyNotLend 12 = .ok (.ifCond .ne 7, 3) := by decide +kernel
theorem dX9_whyNotLend_15 : decode cX9_whyNotLend 15 = .ok (.iconst 1, 1) := by decide +kernel
theorem dX9_whyNotLend_16 : decode cX9_whyNotLend 16 = .ok (.goto 42, 3) := by decide +kernel
theorem dX9_whyNotLend_19 : decode cX9_whyNotLend 19 = .ok (.iload_n 3, 1) := by decide +kernel
theorem dX9_whyNotLend_20 : decode cX9_whyNotLend 20 = .ok (.i2l, 1) := by decide +kernel
theorem dX9_whyNotLend_21 : decode cX9_whyNotLend 21 = .ok (.lconst 1, 1) := by decide +kernel
theorem dX9_whyNotLend_22 : decode cX9_whyNotLend 22 = .ok (.ldc2_w 72, 3) := by decide +kernel
theorem dX9_whyNotLend_25 : decode cX9_whyNotLend 25 = .ok (.invokestatic 37, 3) := by decide +kernel
theorem dX9_whyNotLend_28 : decode cX9_whyNotLend 28 = .ok (.ifCond .ne 7, 3) := by decide +kernel
theorem dX9_whyNotLend_31 : decode cX9_whyNotLend 31 = .ok (.iconst 2, 1) := by decide +kernel
theorem dX9_whyNotLend_32 : decode cX9_whyNotLend 32 = .ok (.goto 26, 3) := by decide +kernel
theorem dX9_whyNotLend_35 : decode cX9_whyNotLend 35 = .ok (.aload_n 0, 1) := by decide +kernel
theorem dX9_whyNotLend_36 : decode cX9_whyNotLend 36 = .ok (.iload_n 1, 1) := by decide +kernel
theorem dX9_whyNotLend_37 : decode cX9_whyNotLend 37 = .ok (.invokestatic 49, 3) := by decide +kernel
theorem dX9_whyNotLend_40 : decode cX9_whyNotLend 40 = .ok (.ifCond .eq 13, 3) := by decide +kernel
theorem dX9_whyNotLend_43 : decode cX9_whyNotLend 43 = .ok (.aload_n 0, 1) := by decide +kernel
theorem dX9_whyNotLend_44 : decode cX9_whyNotLend 44 = .ok (.iload_n 1, 1) := by decide +kernel
theorem dX9_whyNotLend_45 : decode cX9_whyNotLend 45 = .ok (.iconst 1, 1) := by decide +kernel
theorem dX9_whyNotLend_46 : decode cX9_whyNotLend 46 = .ok (.invokestatic 45, 3) := by decide +kernel
theorem dX9_whyNotLend_49 : decode cX9_whyNotLend 49 = .ok (.iload_n 2, 1) := by decide +kernel
theorem dX9_whyNotLend_50 : decode cX9_whyNotLend 50 = .ok (.if_icmp .ne 7, 3) := by decide +kernel
theorem dX9_whyNotLend_53 : decode cX9_whyNotLend 53 = .ok (.iconst 3, 1) := by decide +kernel
theorem dX9_whyNotLend_54 : decode cX9_whyNotLend 54 = .ok (.goto 4, 3) := by decide +kernel
theorem dX9_whyNotLend_57 : decode cX9_whyNotLend 57 = .ok (.iconst 0, 1) := by decide +kernel
theorem dX9_whyNotLend_58 : decode cX9_whyNotLend 58 = .ok (.ireturn, 1) := by decide +kernel
set_option maxRecDepth 20000 in
theorem ggX9_lendOn_X9_lay : GoodIn wsX9_lendOn wsX9_lay := goodIn_r _ [4] (by decide +kernel) (by decide +kernel)
set_option maxRecDepth 20000 in
theorem gX9_lendOn_X9_lay : GoodIn wsX9_lendOn (va_wsS RX9 65 yX9_lay wsX9_lay) := goodIn_app (goodIn_of _ (by decide +kernel)) ggX9_lendOn_X9_lay
theorem dX9_lendOn_0 : decode cX9_lendOn 0 = .ok (.aload_n 0, 1) := by decide +kernel
theorem dX9_lendOn_1 : decode cX9_lendOn 1 = .ok (.iload_n 1, 1) := by decide +kernel
theorem dX9_lendOn_2 : decode cX9_lendOn 2 = .ok (.iconst 2, 1) := by decide +kernel
theorem dX9_lendOn_3 : decode cX9_lendOn 3 = .ok (.iload_n 2, 1) := by decide +kernel
theorem dX9_lendOn_4 : decode cX9_lendOn 4 = .ok (.invokestatic 65, 3) := by decide +kernel
theorem dX9_lendOn_7 : decode cX9_lendOn 7 = .ok (.aload_n 0, 1) := by decide +kernel
theorem dX9_lendOn_8 : decode cX9_lendOn 8 = .ok (.iload_n 1, 1) := by decide +kernel
theorem dX9_lendOn_9 : decode cX9_lendOn 9 = .ok (.iconst 4, 1) := by decide +kernel
theorem dX9_lendOn_10 : decode cX9_lendOn 10 = .ok (.aload_n 0, 1) := by decide +kernel
theorem dX9_lendOn_11 : decode cX9_lendOn 11 = .ok (.iconst 0, 1) := by decide +kernel
theorem dX9_lendOn_12 : decode cX9_lendOn 12 = .ok (.iaload, 1) := by decide +kernel
theorem dX9_lendOn_13 : decode cX9_lendOn 13 = .ok (.iload_n 3, 1) := by decide +kernel
theorem dX9_lendOn_14 : decode cX9_lendOn 14 = .ok (.iadd, 1) := by decide +kernel
theorem dX9_lendOn_15 : decode cX9_lendOn 15 = .ok (.invokestatic 65, 3) := by decide +kernel
theorem dX9_lendOn_18 : decode cX9_lendOn 18 = .ok (.aload_n 0, 1) := by decide +kernel
theorem dX9_lendOn_19 : decode cX9_lendOn 19 = .ok (.iconst 0, 1) := by decide +kernel
theorem dX9_lendOn_20 : decode cX9_lendOn 20 = .ok (.iaload, 1) := by decide +kernel
theorem dX9_lendOn_21 : decode cX9_lendOn 21 = .ok (.iload_n 3, 1) := by decide +kernel
theorem dX9_lendOn_22 : decode cX9_lendOn 22 = .ok (.iadd, 1) := by decide +kernel
theorem dX9_lendOn_23 : decode cX9_lendOn 23 = .ok (.ireturn, 1) := by decide +kernel
set_option maxRecDepth 20000 in
theorem ggX9_whyNotBring_X9_isUnit : GoodIn wsX9_whyNotBring wsX9_isUnit := goodIn_r _ [4, 5, 6, 3, 7] (by decide +kernel) (by decide +kernel)
set_option maxRecDepth 20000 in
theorem gX9_whyNotBring_X9_isUnit : GoodIn wsX9_whyNotBring (va_wsS RX9 69 yX9_isUnit wsX9_isUnit) := goodIn_app (goodIn_of _ (by decide +kernel)) ggX9_whyNotBring_X9_isUnit
set_option maxRecDepth 20000 in
theorem ggX9_whyNotBring_X9_isFree : GoodIn wsX9_whyNotBring wsX9_isFree := goodIn_r _ [10, 11, 12, 3, 13] (by decide +kernel) (by decide +kernel)
set_option maxRecDepth 20000 in
theorem gX9_whyNotBring_X9_isFree : GoodIn wsX9_whyNotBring (va_wsS RX9 49 yX9_isFree wsX9_isFree) := goodIn_app (goodIn_of _ (by decide +kernel)) ggX9_whyNotBring_X9_isFree
theorem dX9_whyNotBring_0 : decode cX9_whyNotBring 0 = .ok (.aload_n 0, 1) := by decide +kernel
theorem dX9_whyNotBring_1 : decode cX9_whyNotBring 1 = .ok (.iload_n 1, 1) := by decide +kernel
theorem dX9_whyNotBring_2 : decode cX9_whyNotBring 2 = .ok (.invokestatic 69, 3) := by decide +kernel
theorem dX9_whyNotBring_5 : decode cX9_whyNotBring 5 = .ok (.ifCond .ne 7, 3) := by decide +kernel
theorem dX9_whyNotBring_8 : decode cX9_whyNotBring 8 = .ok (.iconst 1, 1) := by decide +kernel
theorem dX9_whyNotBring_9 : decode cX9_whyNotBring 9 = .ok (.goto 16, 3) := by decide +kernel
theorem dX9_whyNotBring_12 : decode cX9_whyNotBring 12 = .ok (.aload_n 0, 1) := by decide +kernel
theorem dX9_whyNotBring_13 : decode cX9_whyNotBring 13 = .ok (.iload_n 1, 1) := by decide +kernel
theorem dX9_whyNotBring_14 : decode cX9_whyNotBring 14 = .ok (.invokestatic 49, 3) := by decide +kernel
theorem dX9_whyNotBring_17 : decode cX9_whyNotBring 17 = .ok (.ifCond .eq 7, 3) := by decide +kernel
theorem dX9_whyNotBring_20 : decode cX9_whyNotBring 20 = .ok (.iconst 2, 1) := by decide +kernel
theorem dX9_whyNotBring_21 : decode cX9_whyNotBring 21 = .ok (.goto 4, 3) := by decide +kernel
theorem dX9_whyNotBring_24 : decode cX9_whyNotBring 24 = .ok (.iconst 0, 1) := by decide +kernel
theorem dX9_whyNotBring_25 : decode cX9_whyNotBring 25 = .ok (.ireturn, 1) := by decide +kernel
set_option maxRecDepth 20000 in
theorem ggX9_bringOn_X9_lateOf : GoodIn wsX9_bringOn wsX9_lateOf := goodIn_r _ [4, 5, 6, 3, 7, 8, 9, 10, 11, 12, 13] (by decide +kernel) (by decide +kernel)
set_option maxRecDepth 20000 in
theorem gX9_bringOn_X9_lateOf : GoodIn wsX9_bringOn (va_wsS RX9 74 yX9_lateOf wsX9_lateOf) := goodIn_app (goodIn_of _ (by decide +kernel)) ggX9_bringOn_X9_lateOf
set_option maxRecDepth 20000 in
theorem ggX9_bringOn_X9_of : GoodIn wsX9_bringOn wsX9_of := goodIn_r _ [10] (by decide +kernel) (by decide +kernel)
set_option maxRecDepth 20000 in
theorem gX9_bringOn_X9_of : GoodIn wsX9_bringOn (va_wsS RX9 45 yX9_of wsX9_of) := goodIn_app (goodIn_of _ (by decide +kernel)) ggX9_bringOn_X9_of
set_option maxRecDepth 20000 in
theorem ggX9_bringOn_X9_pays : GoodIn wsX9_bringOn wsX9_pays := goodIn_r _ [16] (by decide +kernel) (by decide +kernel)
set_option maxRecDepth 20000 in
theorem gX9_bringOn_X9_pays : GoodIn wsX9_bringOn (va_wsS RX9 77 yX9_pays wsX9_pays) := goodIn_app (goodIn_of _ (by decide +kernel)) ggX9_bringOn_X9_pays
set_option maxRecDepth 20000 in
theorem ggX9_bringOn_X9_lay : GoodIn wsX9_bringOn wsX9_lay := goodIn_r _ [19] (by decide +kernel) (by decide +kernel)
set_option maxRecDepth 20000 in
theorem gX9_bringOn_X9_lay : GoodIn wsX9_bringOn (va_wsS RX9 65 yX9_lay wsX9_lay) := goodIn_app (goodIn_of _ (by decide +kernel)) ggX9_bringOn_X9_lay
theorem dX9_bringOn_0 : decode cX9_bringOn 0 = .ok (.aload_n 0, 1) := by decide +kernel
theorem dX9_bringOn_1 : decode cX9_bringOn 1 = .ok (.iload_n 1, 1) := by decide +kernel
theorem dX9_bringOn_2 : decode cX9_bringOn 2 = .ok (.iconst 0, 1) := by decide +kernel
theorem dX9_bringOn_3 : decode cX9_bringOn 3 = .ok (.invokestatic 74, 3) := by decide +kernel
theorem dX9_bringOn_6 : decode cX9_bringOn 6 = .ok (.istore_n 2, 1) := by decide +kernel
theorem dX9_bringOn_7 : decode cX9_bringOn 7 = .ok (.aload_n 0, 1) := by decide +kernel
theorem dX9_bringOn_8 : decode cX9_bringOn 8 = .ok (.aload_n 0, 1) := by decide +kernel
theorem dX9_bringOn_9 : decode cX9_bringOn 9 = .ok (.iload_n 1, 1) := by decide +kernel
theorem dX9_bringOn_10 : decode cX9_bringOn 10 = .ok (.iconst 2, 1) := by decide +kernel
theorem dX9_bringOn_11 : decode cX9_bringOn 11 = .ok (.invokestatic 45, 3) := by decide +kernel
theorem dX9_bringOn_14 : decode cX9_bringOn 14 = .ok (.aload_n 0, 1) := by decide +kernel
theorem dX9_bringOn_15 : decode cX9_bringOn 15 = .ok (.iload_n 1, 1) := by decide +kernel
theorem dX9_bringOn_16 : decode cX9_bringOn 16 = .ok (.iconst 1, 1) := by decide +kernel
theorem dX9_bringOn_17 : decode cX9_bringOn 17 = .ok (.invokestatic 45, 3) := by decide +kernel
theorem dX9_bringOn_20 : decode cX9_bringOn 20 = .ok (.iload_n 2, 1) := by decide +kernel
theorem dX9_bringOn_21 : decode cX9_bringOn 21 = .ok (.invokestatic 77, 3) := by decide +kernel
theorem dX9_bringOn_24 : decode cX9_bringOn 24 = .ok (.aload_n 0, 1) := by decide +kernel
theorem dX9_bringOn_25 : decode cX9_bringOn 25 = .ok (.iload_n 1, 1) := by decide +kernel
theorem dX9_bringOn_26 : decode cX9_bringOn 26 = .ok (.iconst 2, 1) := by decide +kernel
theorem dX9_bringOn_27 : decode cX9_bringOn 27 = .ok (.aload_n 0, 1) := by decide +kernel
theorem dX9_bringOn_28 : decode cX9_bringOn 28 = .ok (.iload_n 1, 1) := by decide +kernel
theorem dX9_bringOn_29 : decode cX9_bringOn 29 = .ok (.iconst 1, 1) := by decide +kernel
theorem dX9_bringOn_30 : decode cX9_bringOn 30 = .ok (.invokestatic 45, 3) := by decide +kernel
theorem dX9_bringOn_33 : decode cX9_bringOn 33 = .ok (.invokestatic 65, 3) := by decide +kernel
theorem dX9_bringOn_36 : decode cX9_bringOn 36 = .ok (.iload_n 2, 1) := by decide +kernel
theorem dX9_bringOn_37 : decode cX9_bringOn 37 = .ok (.ireturn, 1) := by decide +kernel
set_option maxRecDepth 20000 in
theorem ggX9_isCore_X9_of : GoodIn wsX9_isCore wsX9_of := goodIn_r _ [4] (by decide +kernel) (by decide +kernel)
set_option maxRecDepth 20000 in
theorem gX9_isCore_X9_of : GoodIn wsX9_isCore (va_wsS RX9 45 yX9_of wsX9_of) := goodIn_app (goodIn_of _ (by decide +kernel)) ggX9_isCore_X9_of
set_option maxRecDepth 20000 in
theorem ggX9_isCore_X9_isFree : GoodIn wsX9_isCore wsX9_isFree := goodIn_r _ [7, 1, 2, 3, 4] (by decide +kernel) (by decide +kernel)
set_option maxRecDepth 20000 in
theorem gX9_isCore_X9_isFree : GoodIn wsX9_isCore (va_wsS RX9 49 yX9_isFree wsX9_isFree) := goodIn_app (goodIn_of _ (by decide +kernel)) ggX9_isCore_X9_isFree
theorem dX9_isCore_0 : decode cX9_isCore 0 = .ok (.aload_n 0, 1) := by decide +kernel
theorem dX9_isCore_1 : decode cX9_isCore 1 = .ok (.iload_n 1, 1) := by decide +kernel
theorem dX9_isCore_2 : decode cX9_isCore 2 = .ok (.iconst 1, 1) := by decide +kernel
theorem dX9_isCore_3 : decode cX9_isCore 3 = .ok (.invokestatic 45, 3) := by decide +kernel
theorem dX9_isCore_6 : decode cX9_isCore 6 = .ok (.iconst 4, 1) := by decide +kernel
theorem dX9_isCore_7 : decode cX9_isCore 7 = .ok (.if_icmp .eq 15, 3) := by decide +kernel
theorem dX9_isCore_10 : decode cX9_isCore 10 = .ok (.aload_n 0, 1) := by decide +kernel
theorem dX9_isCore_11 : decode cX9_isCore 11 = .ok (.iload_n 1, 1) := by decide +kernel
theorem dX9_isCore_12 : decode cX9_isCore 12 = .ok (.invokestatic 49, 3) := by decide +kernel
theorem dX9_isCore_15 : decode cX9_isCore 15 = .ok (.ifCond .eq 7, 3) := by decide +kernel
theorem dX9_isCore_18 : decode cX9_isCore 18 = .ok (.iconst 1, 1) := by decide +kernel
theorem dX9_isCore_19 : decode cX9_isCore 19 = .ok (.goto 4, 3) := by decide +kernel
theorem dX9_isCore_22 : decode cX9_isCore 22 = .ok (.iconst 0, 1) := by decide +kernel
theorem dX9_isCore_23 : decode cX9_isCore 23 = .ok (.ireturn, 1) := by decide +kernel
set_option maxRecDepth 20000 in
theorem ggX9_isGood_X9_of : GoodIn wsX9_isGood wsX9_of := goodIn_r _ [4] (by decide +kernel) (by decide +kernel)
set_option maxRecDepth 20000 in
theorem gX9_isGood_X9_of : GoodIn wsX9_isGood (va_wsS RX9 45 yX9_of wsX9_of) := goodIn_app (goodIn_of _ (by decide +kernel)) ggX9_isGood_X9_of
set_option maxRecDepth 20000 in
theorem ggX9_isGood_X9_isFree : GoodIn wsX9_isGood wsX9_isFree := goodIn_r _ [7, 1, 2, 3, 4] (by decide +kernel) (by decide +kernel)
set_option maxRecDepth 20000 in
theorem gX9_isGood_X9_isFree : GoodIn wsX9_isGood (va_wsS RX9 49 yX9_isFree wsX9_isFree) := goodIn_app (goodIn_of _ (by decide +kernel)) ggX9_isGood_X9_isFree
theorem dX9_isGood_0 : decode cX9_isGood 0 = .ok (.aload_n 0, 1) := by decide +kernel
theorem dX9_isGood_1 : decode cX9_isGood 1 = .ok (.iload_n 1, 1) := by decide +kernel
theorem dX9_isGood_2 : decode cX9_isGood 2 = .ok (.iconst 1, 1) := by decide +kernel
theorem dX9_isGood_3 : decode cX9_isGood 3 = .ok (.invokestatic 45, 3) := by decide +kernel
theorem dX9_isGood_6 : decode cX9_isGood 6 = .ok (.iconst 4, 1) := by decide +kernel
theorem dX9_isGood_7 : decode cX9_isGood 7 = .ok (.if_icmp .ne 26, 3) := by decide +kernel
theorem dX9_isGood_10 : decode cX9_isGood 10 = .ok (.aload_n 0, 1) := by decide +kernel
theorem dX9_isGood_11 : decode cX9_isGood 11 = .ok (.iload_n 1, 1) := by decide +kernel
theorem dX9_isGood_12 : decode cX9_isGood 12 = .ok (.invokestatic 49, 3) := by decide +kernel
theorem dX9_isGood_15 : decode cX9_isGood 15 = .ok (.ifCond .eq 18, 3) := by decide +kernel
theorem dX9_isGood_18 : decode cX9_isGood 18 = .ok (.aload_n 0, 1) := by decide +kernel
theorem dX9_isGood_19 : decode cX9_isGood 19 = .ok (.iload_n 1, 1) := by decide +kernel
theorem dX9_isGood_20 : decode cX9_isGood 20 = .ok (.iconst 3, 1) := by decide +kernel
theorem dX9_isGood_21 : decode cX9_isGood 21 = .ok (.invokestatic 45, 3) := by decide +kernel
theorem dX9_isGood_24 : decode cX9_isGood 24 = .ok (.bipush 7, 2) := by decide +kernel
theorem dX9_isGood_26 : decode cX9_isGood 26 = .ok (.if_icmp .ne 7, 3) := by decide +kernel
theorem dX9_isGood_29 : decode cX9_isGood 29 = .ok (.iconst 1, 1) := by decide +kernel
theorem dX9_isGood_30 : decode cX9_isGood 30 = .ok (.goto 4, 3) := by decide +kernel
theorem dX9_isGood_33 : decode cX9_isGood 33 = .ok (.iconst 0, 1) := by decide +kernel
theorem dX9_isGood_34 : decode cX9_isGood 34 = .ok (.ireturn, 1) := by decide +kernel
set_option maxRecDepth 20000 in
theorem ggX9_whyNotExchange_X9_isUnit : GoodIn wsX9_whyNotExchange wsX9_isUnit := goodIn_r _ [4, 5, 6, 3, 7] (by decide +kernel) (by decide +kernel)
set_option maxRecDepth 20000 in
theorem gX9_whyNotExchange_X9_isUnit : GoodIn wsX9_whyNotExchange (va_wsS RX9 69 yX9_isUnit wsX9_isUnit) := goodIn_app (goodIn_of _ (by decide +kernel)) ggX9_whyNotExchange_X9_isUnit
set_option maxRecDepth 20000 in
theorem ggX9_whyNotExchange_X9_isCore : GoodIn wsX9_whyNotExchange wsX9_isCore := goodIn_r _ [10, 11, 12, 3, 13, 14, 15, 16] (by decide +kernel) (by decide +kernel)
set_option maxRecDepth 20000 in
theorem gX9_whyNotExchange_X9_isCore : GoodIn wsX9_whyNotExchange (va_wsS RX9 80 yX9_isCore wsX9_isCore) := goodIn_app (goodIn_of _ (by decide +kernel)) ggX9_whyNotExchange_X9_isCore
set_option maxRecDepth 20000 in
theorem ggX9_whyNotExchange_X9_isGood : GoodIn wsX9_whyNotExchange wsX9_isGood := goodIn_r _ [19, 11, 12, 3, 13, 14, 15, 16] (by decide +kernel) (by decide +kernel)
set_option maxRecDepth 20000 in
theorem gX9_whyNotExchange_X9_isGood : GoodIn wsX9_whyNotExchange (va_wsS RX9 83 yX9_isGood wsX9_isGood) := goodIn_app (goodIn_of _ (by decide +kernel)) ggX9_whyNotExchange_X9_isGood
set_option maxRecDepth 20000 in
theorem ggX9_whyNotExchange_X9_of : GoodIn wsX9_whyNotExchange wsX9_of := goodIn_r _ [13] (by decide +kernel) (by decide +kernel)
set_option maxRecDepth 20000 in
theorem gX9_whyNotExchange_X9_of : GoodIn wsX9_whyNotExchange (va_wsS RX9 45 yX9_of wsX9_of) := goodIn_app (goodIn_of _ (by decide +kernel)) ggX9_whyNotExchange_X9_of
theorem dX9_whyNotExchange_0 : decode cX9_whyNotExchange 0 = .ok (.aload_n 0, 1) := by decide +kernel
theorem dX9_whyNotExchange_1 : decode cX9_whyNotExchange 1 = .ok (.iload_n 1, 1) := by decide +kernel
theorem dX9_whyNotExchange_2 : decode cX9_whyNotExchange 2 = .ok (.invokestatic 69, 3) := by decide +kernel
theorem dX9_whyNotExchange_5 : decode cX9_whyNotExchange 5 = .ok (.ifCond .eq 11, 3) := by decide +kernel
theorem dX9_whyNotExchange_8 : decode cX9_whyNotExchange 8 = .ok (.aload_n 0, 1) := by decide +kernel
theorem dX9_whyNotExchange_9 : decode cX9_whyNotExchange 9 = .ok (.iload_n 2, 1) := by decide +kernel
theorem dX9_whyNotExchange_10 : decode cX9_whyNotExchange 10 = .ok (.invokestatic 69, 3) := by decide +kernel
theorem dX9_whyNotExchange_13 : decode cX9_whyNotExchange 13 = .ok (.ifCond .ne 7, 3) := by decide +kernel
theorem dX9_whyNotExchange_16 : decode cX9_whyNotExchange 16 = .ok (.iconst 1, 1) := by decide +kernel
theorem dX9_whyNotExchange_17 : decode cX9_whyNotExchange 17 = .ok (.goto 39, 3) := by decide +kernel
theorem dX9_whyNotExchange_20 : decode cX9_whyNotExchange 20 = .ok (.aload_n 0, 1) := by decide +kernel
theorem dX9_whyNotExchange_21 : decode cX9_whyNotExchange 21 = .ok (.iload_n 1, 1) := by decide +kernel
theorem dX9_whyNotExchange_22 : decode cX9_whyNotExchange 22 = .ok (.invokestatic 80, 3) := by decide +kernel
theorem dX9_whyNotExchange_25 : decode cX9_whyNotExchange 25 = .ok (.ifCond .eq 26, 3) := by decide +kernel
theorem dX9_whyNotExchange_28 : decode cX9_whyNotExchange 28 = .ok (.aload_n 0, 1) := by decide +kernel
theorem dX9_whyNotExchange_29 : decode cX9_whyNotExchange 29 = .ok (.iload_n 2, 1) := by decide +kernel
theorem dX9_whyNotExchange_30 : decode cX9_whyNotExchange 30 = .ok (.invokestatic 83, 3) := by decide +kernel
theorem dX9_whyNotExchange_33 : decode cX9_whyNotExchange 33 = .ok (.ifCond .eq 18, 3) := by decide +kernel
theorem dX9_whyNotExchange_36 : decode cX9_whyNotExchange 36 = .ok (.aload_n 0, 1) := by decide +kernel
theorem dX9_whyNotExchange_37 : decode cX9_whyNotExchange 37 = .ok (.iload_n 1, 1) := by decide +kernel
theorem dX9_whyNotExchange_38 : decode cX9_whyNotExchange 38 = .ok (.iconst 0, 1) := by decide +kernel
theorem dX9_whyNotExchange_39 : decode cX9_whyNotExchange 39 = .ok (.invokestatic 45, 3) := by decide +kernel
theorem dX9_whyNotExchange_42 : decode cX9_whyNotExchange 42 = .ok (.aload_n 0, 1) := by decide +kernel
theorem dX9_whyNotExchange_43 : decode cX9_whyNotExchange 43 = .ok (.iload_n 2, 1) := by decide +kernel
theorem dX9_whyNotExchange_44 : decode cX9_whyNotExchange 44 = .ok (.iconst 0, 1) := by decide +kernel
theorem dX9_whyNotExchange_45 : decode cX9_whyNotExchange 45 = .ok (.invokestatic 45, 3) := by decide +kernel
theorem dX9_whyNotExchange_48 : decode cX9_whyNotExchange 48 = .ok (.if_icmp .eq 7, 3) := by decide +kernel
theorem dX9_whyNotExchange_51 : decode cX9_whyNotExchange 51 = .ok (.iconst 2, 1) := by decide +kernel
theorem dX9_whyNotExchange_52 : decode cX9_whyNotExchange 52 = .ok (.goto 4, 3) := by decide +kernel
theorem dX9_whyNotExchange_55 : decode cX9_whyNotExchange 55 = .ok (.iconst 0, 1) := by decide +kernel
theorem dX9_whyNotExchange_56 : decode cX9_whyNotExchange 56 = .ok (.ireturn, 1) := by decide +kernel
set_option maxRecDepth 20000 in
theorem ggX9_priceOf_X9_missing : GoodIn wsX9_priceOf wsX9_missing := goodIn_r _ [4, 5, 6, 3, 7] (by decide +kernel) (by decide +kernel)
set_option maxRecDepth 20000 in
theorem gX9_priceOf_X9_missing : GoodIn wsX9_priceOf (va_wsS RX9 86 yX9_missing wsX9_missing) := goodIn_app (goodIn_of _ (by decide +kernel)) ggX9_priceOf_X9_missing
theorem dX9_priceOf_0 : decode cX9_priceOf 0 = .ok (.aload_n 0, 1) := by decide +kernel
theorem dX9_priceOf_1 : decode cX9_priceOf 1 = .ok (.iconst 3, 1) := by decide +kernel
theorem dX9_priceOf_2 : decode cX9_priceOf 2 = .ok (.iaload, 1) := by decide +kernel
theorem dX9_priceOf_3 : decode cX9_priceOf 3 = .ok (.aload_n 0, 1) := by decide +kernel
theorem dX9_priceOf_4 : decode cX9_priceOf 4 = .ok (.iconst 4, 1) := by decide +kernel
theorem dX9_priceOf_5 : decode cX9_priceOf 5 = .ok (.iaload, 1) := by decide +kernel
theorem dX9_priceOf_6 : decode cX9_priceOf 6 = .ok (.aload_n 0, 1) := by decide +kernel
theorem dX9_priceOf_7 : decode cX9_priceOf 7 = .ok (.iload_n 1, 1) := by decide +kernel
theorem dX9_priceOf_8 : decode cX9_priceOf 8 = .ok (.invokestatic 86, 3) := by decide +kernel
theorem dX9_priceOf_11 : decode cX9_priceOf 11 = .ok (.imul, 1) := by decide +kernel
theorem dX9_priceOf_12 : decode cX9_priceOf 12 = .ok (.iadd, 1) := by decide +kernel
theorem dX9_priceOf_13 : decode cX9_priceOf 13 = .ok (.ireturn, 1) := by decide +kernel
set_option maxRecDepth 20000 in
theorem ggX9_give_X9_lay : GoodIn wsX9_give wsX9_lay := goodIn_r _ [4] (by decide +kernel) (by decide +kernel)
set_option maxRecDepth 20000 in
theorem gX9_give_X9_lay : GoodIn wsX9_give (va_wsS RX9 65 yX9_lay wsX9_lay) := goodIn_app (goodIn_of _ (by decide +kernel)) ggX9_give_X9_lay
theorem dX9_give_0 : decode cX9_give 0 = .ok (.aload_n 0, 1) := by decide +kernel
theorem dX9_give_1 : decode cX9_give 1 = .ok (.iload_n 1, 1) := by decide +kernel
theorem dX9_give_2 : decode cX9_give 2 = .ok (.iconst 1, 1) := by decide +kernel
theorem dX9_give_3 : decode cX9_give 3 = .ok (.iload_n 2, 1) := by decide +kernel
theorem dX9_give_4 : decode cX9_give 4 = .ok (.invokestatic 65, 3) := by decide +kernel
theorem dX9_give_7 : decode cX9_give 7 = .ok (.aload_n 0, 1) := by decide +kernel
theorem dX9_give_8 : decode cX9_give 8 = .ok (.iload_n 1, 1) := by decide +kernel
theorem dX9_give_9 : decode cX9_give 9 = .ok (.iconst 2, 1) := by decide +kernel
theorem dX9_give_10 : decode cX9_give 10 = .ok (.iload_n 2, 1) := by decide +kernel
theorem dX9_give_11 : decode cX9_give 11 = .ok (.invokestatic 65, 3) := by decide +kernel
theorem dX9_give_14 : decode cX9_give 14 = .ok (.return_, 1) := by decide +kernel
set_option maxRecDepth 20000 in
theorem ggX9_exchangeOn_X9_of : GoodIn wsX9_exchangeOn wsX9_of := goodIn_r _ [4] (by decide +kernel) (by decide +kernel)
set_option maxRecDepth 20000 in
theorem gX9_exchangeOn_X9_of : GoodIn wsX9_exchangeOn (va_wsS RX9 45 yX9_of wsX9_of) := goodIn_app (goodIn_of _ (by decide +kernel)) ggX9_exchangeOn_X9_of
set_option maxRecDepth 20000 in
theorem ggX9_exchangeOn_X9_priceOf : GoodIn wsX9_exchangeOn wsX9_priceOf := goodIn_r _ [7, 8, 9, 3, 10, 1, 2, 4] (by decide +kernel) (by decide +kernel)
set_option maxRecDepth 20000 in
theorem gX9_exchangeOn_X9_priceOf : GoodIn wsX9_exchangeOn (va_wsS RX9 90 yX9_priceOf wsX9_priceOf) := goodIn_app (goodIn_of _ (by decide +kernel)) ggX9_exchangeOn_X9_priceOf
set_option maxRecDepth 20000 in
theorem ggX9_exchangeOn_X9_give : GoodIn wsX9_exchangeOn wsX9_give := goodIn_r _ [13, 14, 15, 3, 16] (by decide +kernel) (by decide +kernel)
set_option maxRecDepth 20000 in
theorem gX9_exchangeOn_X9_give : GoodIn wsX9_exchangeOn (va_wsS RX9 93 yX9_give wsX9_give) := goodIn_app (goodIn_of _ (by decide +kernel)) ggX9_exchangeOn_X9_give
set_option maxRecDepth 20000 in
theorem ggX9_exchangeOn_X9_pays : GoodIn wsX9_exchangeOn wsX9_pays := goodIn_r _ [19] (by decide +kernel) (by decide +kernel)
set_option maxRecDepth 20000 in
theorem gX9_exchangeOn_X9_pays : GoodIn wsX9_exchangeOn (va_wsS RX9 77 yX9_pays wsX9_pays) := goodIn_app (goodIn_of _ (by decide +kernel)) ggX9_exchangeOn_X9_pays
theorem dX9_exchangeOn_0 : decode cX9_exchangeOn 0 = .ok (.aload_n 0, 1) := by decide +kernel
theorem dX9_exchangeOn_1 : decode cX9_exchangeOn 1 = .ok (.iload_n 1, 1) := by decide +kernel
theorem dX9_exchangeOn_2 : decode cX9_exchangeOn 2 = .ok (.iconst 1, 1) := by decide +kernel
theorem dX9_exchangeOn_3 : decode cX9_exchangeOn 3 = .ok (.invokestatic 45, 3) := by decide +kernel
theorem dX9_exchangeOn_6 : decode cX9_exchangeOn 6 = .ok (.istore_n 3, 1) := by decide +kernel
theorem dX9_exchangeOn_7 : decode cX9_exchangeOn 7 = .ok (.aload_n 0, 1) := by decide +kernel
theorem dX9_exchangeOn_8 : decode cX9_exchangeOn 8 = .ok (.iload_n 1, 1) := by decide +kernel
theorem dX9_exchangeOn_9 : decode cX9_exchangeOn 9 = .ok (.invokestatic 90, 3) := by decide +kernel
theorem dX9_exchangeOn_12 : decode cX9_exchangeOn 12 = .ok (.istore 4, 2) := by decide +kernel
theorem dX9_exchangeOn_14 : decode cX9_exchangeOn 14 = .ok (.aload_n 0, 1) := by decide +kernel
theorem dX9_exchangeOn_15 : decode cX9_exchangeOn 15 = .ok (.iload_n 1, 1) := by decide +kernel
theorem dX9_exchangeOn_16 : decode cX9_exchangeOn 16 = .ok (.iconst 4, 1) := by decide +kernel
theorem dX9_exchangeOn_17 : decode cX9_exchangeOn 17 = .ok (.invokestatic 93, 3) := by decide +kernel
theorem dX9_exchangeOn_20 : decode cX9_exchangeOn 20 = .ok (.aload_n 0, 1) := by decide +kernel
theorem dX9_exchangeOn_21 : decode cX9_exchangeOn 21 = .ok (.iload_n 2, 1) := by decide +kernel
theorem dX9_exchangeOn_22 : decode cX9_exchangeOn 22 = .ok (.iload_n 3, 1) := by decide +kernel
theorem dX9_exchangeOn_23 : decode cX9_exchangeOn 23 = .ok (.invokestatic 93, 3) := by decide +kernel
theorem dX9_exchangeOn_26 : decode cX9_exchangeOn 26 = .ok (.aload_n 0, 1) := by decide +kernel
theorem dX9_exchangeOn_27 : decode cX9_exchangeOn 27 = .ok (.iload_n 3, 1) := by decide +kernel
theorem dX9_exchangeOn_28 : decode cX9_exchangeOn 28 = .ok (.iconst 4, 1) := by decide +kernel
theorem dX9_exchangeOn_29 : decode cX9_exchangeOn 29 = .ok (.iload 4, 2) := by decide +kernel
theorem dX9_exchangeOn_31 : decode cX9_exchangeOn 31 = .ok (.invokestatic 77, 3) := by decide +kernel
theorem dX9_exchangeOn_34 : decode cX9_exchangeOn 34 = .ok (.aload_n 0, 1) := by decide +kernel
theorem dX9_exchangeOn_35 : decode cX9_exchangeOn 35 = .ok (.bipush 7, 2) := by decide +kernel
theorem dX9_exchangeOn_37 : decode cX9_exchangeOn 37 = .ok (.dup2, 1) := by decide +kernel
theorem dX9_exchangeOn_38 : decode cX9_exchangeOn 38 = .ok (.iaload, 1) := by decide +kernel
theorem dX9_exchangeOn_39 : decode cX9_exchangeOn 39 = .ok (.iconst 1, 1) := by decide +kernel
theorem dX9_exchangeOn_40 : decode cX9_exchangeOn 40 = .ok (.iadd, 1) := by decide +kernel
theorem dX9_exchangeOn_41 : decode cX9_exchangeOn 41 = .ok (.iastore, 1) := by decide +kernel
theorem dX9_exchangeOn_42 : decode cX9_exchangeOn 42 = .ok (.iload 4, 2) := by decide +kernel
theorem dX9_exchangeOn_44 : decode cX9_exchangeOn 44 = .ok (.ireturn, 1) := by decide +kernel
set_option maxRecDepth 20000 in
theorem ggX9_whyNotAdvance_X9_isHolder : GoodIn wsX9_whyNotAdvance wsX9_isHolder := goodIn_r _ [5, 6, 7, 8, 4, 9] (by decide +kernel) (by decide +kernel)
set_option maxRecDepth 20000 in
theorem gX9_whyNotAdvance_X9_isHolder : GoodIn wsX9_whyNotAdvance (va_wsS RX9 60 yX9_isHolder wsX9_isHolder) := goodIn_app (goodIn_of _ (by decide +kernel)) ggX9_whyNotAdvance_X9_isHolder
set_option maxRecDepth 20000 in
theorem ggX9_whyNotAdvance_X9_isUnit : GoodIn wsX9_whyNotAdvance wsX9_isUnit := goodIn_r _ [12, 7, 8, 4, 9] (by decide +kernel) (by decide +kernel)
set_option maxRecDepth 20000 in
theorem gX9_whyNotAdvance_X9_isUnit : GoodIn wsX9_whyNotAdvance (va_wsS RX9 69 yX9_isUnit wsX9_isUnit) := goodIn_app (goodIn_of _ (by decide +kernel)) ggX9_whyNotAdvance_X9_isUnit
set_option maxRecDepth 20000 in
theorem ggX9_whyNotAdvance_X9_in : GoodIn wsX9_whyNotAdvance wsX9_in := goodIn_r _ [9] (by decide +kernel) (by decide +kernel)
set_option maxRecDepth 20000 in
theorem gX9_whyNotAdvance_X9_in : GoodIn wsX9_whyNotAdvance (va_wsS RX9 37 yX9_in wsX9_in) := goodIn_app (goodIn_of _ (by decide +kernel)) ggX9_whyNotAdvance_X9_in
set_option maxRecDepth 20000 in
theorem ggX9_whyNotAdvance_X9_coresAt : GoodIn wsX9_whyNotAdvance wsX9_coresAt := goodIn_r _ [15] (by decide +kernel) (by decide +kernel)
set_option maxRecDepth 20000 in
theorem gX9_whyNotAdvance_X9_coresAt : GoodIn wsX9_whyNotAdvance (va_wsS RX9 97 yX9_coresAt wsX9_coresAt) := goodIn_app (goodIn_of _ (by decide +kernel)) ggX9_whyNotAdvance_X9_coresAt
set_option maxRecDepth 20000 in
theorem ggX9_whyNotAdvance_X9_isGood : GoodIn wsX9_whyNotAdvance wsX9_isGood := goodIn_r _ [18, 19, 20, 4, 21, 22, 23, 24] (by decide +kernel) (by decide +kernel)
set_option maxRecDepth 20000 in
theorem gX9_whyNotAdvance_X9_isGood : GoodIn wsX9_whyNotAdvance (va_wsS RX9 83 yX9_isGood wsX9_isGood) := goodIn_app (goodIn_of _ (by decide +kernel)) ggX9_whyNotAdvance_X9_isGood
theorem dX9_whyNotAdvance_0 : decode cX9_whyNotAdvance 0 = .ok (.iload_n 1, 1) := by decide +kernel
theorem dX9_whyNotAdvance_1 : decode cX9_whyNotAdvance 1 = .ok (.invokestatic 60, 3) := by decide +kernel
theorem dX9_whyNotAdvance_4 : decode cX9_whyNotAdvance 4 = .ok (.ifCond .eq 11, 3) := by decide +kernel
theorem dX9_whyNotAdvance_7 : decode cX9_whyNotAdvance 7 = .ok (.aload_n 0, 1) := by decide +kernel
theorem dX9_whyNotAdvance_8 : decode cX9_whyNotAdvance 8 = .ok (.iload_n 2, 1) := by decide +kernel
theorem dX9_whyNotAdvance_9 : decode cX9_whyNotAdvance 9 = .ok (.invokestatic 69, 3) := by decide +kernel
theorem dX9_whyNotAdvance_12 : decode cX9_whyNotAdvance 12 = .ok (.ifCond .ne 7, 3) := by decide +kernel
theorem dX9_whyNotAdvance_15 : decode cX9_whyNotAdvance 15 = .ok (.iconst 1, 1) := by decide +kernel
theorem dX9_whyNotAdvance_16 : decode cX9_whyNotAdvance 16 = .ok (.goto 48, 3) := by decide +kernel
theorem dX9_whyNotAdvance_19 : decode cX9_whyNotAdvance 19 = .ok (.iload_n 3, 1) := by decide +kernel
theorem dX9_whyNotAdvance_20 : decode cX9_whyNotAdvance 20 = .ok (.i2l, 1) := by decide +kernel
theorem dX9_whyNotAdvance_21 : decode cX9_whyNotAdvance 21 = .ok (.lconst 1, 1) := by decide +kernel
theorem dX9_whyNotAdvance_22 : decode cX9_whyNotAdvance 22 = .ok (.ldc2_w 72, 3) := by decide +kernel
theorem dX9_whyNotAdvance_25 : decode cX9_whyNotAdvance 25 = .ok (.invokestatic 37, 3) := by decide +kernel
theorem dX9_whyNotAdvance_28 : decode cX9_whyNotAdvance 28 = .ok (.ifCond .ne 7, 3) := by decide +kernel
theorem dX9_whyNotAdvance_31 : decode cX9_whyNotAdvance 31 = .ok (.iconst 2, 1) := by decide +kernel
theorem dX9_whyNotAdvance_32 : decode cX9_whyNotAdvance 32 = .ok (.goto 32, 3) := by decide +kernel
theorem dX9_whyNotAdvance_35 : decode cX9_whyNotAdvance 35 = .ok (.iload_n 1, 1) := by decide +kernel
theorem dX9_whyNotAdvance_36 : decode cX9_whyNotAdvance 36 = .ok (.iconst 4, 1) := by decide +kernel
theorem dX9_whyNotAdvance_37 : decode cX9_whyNotAdvance 37 = .ok (.if_icmp .eq 22, 3) := by decide +kernel
theorem dX9_whyNotAdvance_40 : decode cX9_whyNotAdvance 40 = .ok (.aload_n 0, 1) := by decide +kernel
theorem dX9_whyNotAdvance_41 : decode cX9_whyNotAdvance 41 = .ok (.iload_n 1, 1) := by decide +kernel
theorem dX9_whyNotAdvance_42 : decode cX9_whyNotAdvance 42 = .ok (.invokestatic 97, 3) := by decide +kernel
theorem dX9_whyNotAdvance_45 : decode cX9_whyNotAdvance 45 = .ok (.iaload, 1) := by decide +kernel
theorem dX9_whyNotAdvance_46 : decode cX9_whyNotAdvance 46 = .ok (.bipush 6, 2) := by decide +kernel
theorem dX9_whyNotAdvance_48 : decode cX9_whyNotAdvance 48 = .ok (.if_icmp .eq 11, 3) := by decide +kernel
theorem dX9_whyNotAdvance_51 : decode cX9_whyNotAdvance 51 = .ok (.aload_n 0, 1) := by decide +kernel
theorem dX9_whyNotAdvance_52 : decode cX9_whyNotAdvance 52 = .ok (.iload_n 2, 1) := by decide +kernel
theorem dX9_whyNotAdvance_53 : decode cX9_whyNotAdvance 53 = .ok (.invokestatic 83, 3) := by decide +kernel
theorem dX9_whyNotAdvance_56 : decode cX9_whyNotAdvance 56 = .ok (.ifCond .ne 7, 3) := by decide +kernel
theorem dX9_whyNotAdvance_59 : decode cX9_whyNotAdvance 59 = .ok (.iconst 3, 1) := by decide +kernel
theorem dX9_whyNotAdvance_60 : decode cX9_whyNotAdvance 60 = .ok (.goto 4, 3) := by decide +kernel
theorem dX9_whyNotAdvance_63 : decode cX9_whyNotAdvance 63 = .ok (.iconst 0, 1) := by decide +kernel
theorem dX9_whyNotAdvance_64 : decode cX9_whyNotAdvance 64 = .ok (.ireturn, 1) := by decide +kernel
set_option maxRecDepth 20000 in
theorem ggX9_advanceOn_X9_coresAt : GoodIn wsX9_advanceOn wsX9_coresAt := goodIn_r _ [4] (by decide +kernel) (by decide +kernel)
set_option maxRecDepth 20000 in
theorem gX9_advanceOn_X9_coresAt : GoodIn wsX9_advanceOn (va_wsS RX9 97 yX9_coresAt wsX9_coresAt) := goodIn_app (goodIn_of _ (by decide +kernel)) ggX9_advanceOn_X9_coresAt
set_option maxRecDepth 20000 in
theorem ggX9_advanceOn_X9_of : GoodIn wsX9_advanceOn wsX9_of := goodIn_r _ [7] (by decide +kernel) (by decide +kernel)
set_option maxRecDepth 20000 in
theorem gX9_advanceOn_X9_of : GoodIn wsX9_advanceOn (va_wsS RX9 45 yX9_of wsX9_of) := goodIn_app (goodIn_of _ (by decide +kernel)) ggX9_advanceOn_X9_of
set_option maxRecDepth 20000 in
theorem ggX9_advanceOn_X9_give : GoodIn wsX9_advanceOn wsX9_give := goodIn_r _ [10, 11, 12, 3, 13] (by decide +kernel) (by decide +kernel)
set_option maxRecDepth 20000 in
theorem gX9_advanceOn_X9_give : GoodIn wsX9_advanceOn (va_wsS RX9 93 yX9_give wsX9_give) := goodIn_app (goodIn_of _ (by decide +kernel)) ggX9_advanceOn_X9_give
theorem dX9_advanceOn_0 : decode cX9_advanceOn 0 = .ok (.iload_n 1, 1) := by decide +kernel
theorem dX9_advanceOn_1 : decode cX9_advanceOn 1 = .ok (.invokestatic 97, 3) := by decide +kernel
theorem dX9_advanceOn_4 : decode cX9_advanceOn 4 = .ok (.istore 4, 2) := by decide +kernel
theorem dX9_advanceOn_6 : decode cX9_advanceOn 6 = .ok (.aload_n 0, 1) := by decide +kernel
theorem dX9_advanceOn_7 : decode cX9_advanceOn 7 = .ok (.iload 4, 2) := by decide +kernel
theorem dX9_advanceOn_9 : decode cX9_advanceOn 9 = .ok (.iaload, 1) := by decide +kernel
theorem dX9_advanceOn_10 : decode cX9_advanceOn 10 = .ok (.istore 5, 2) := by decide +kernel
theorem dX9_advanceOn_12 : decode cX9_advanceOn 12 = .ok (.aload_n 0, 1) := by decide +kernel
theorem dX9_advanceOn_13 : decode cX9_advanceOn 13 = .ok (.iload 4, 2) := by decide +kernel
theorem dX9_advanceOn_15 : decode cX9_advanceOn 15 = .ok (.iconst 1, 1) := by decide +kernel
theorem dX9_advanceOn_16 : decode cX9_advanceOn 16 = .ok (.iadd, 1) := by decide +kernel
theorem dX9_advanceOn_17 : decode cX9_advanceOn 17 = .ok (.iconst 2, 1) := by decide +kernel
theorem dX9_advanceOn_18 : decode cX9_advanceOn 18 = .ok (.iload 5, 2) := by decide +kernel
theorem dX9_advanceOn_20 : decode cX9_advanceOn 20 = .ok (.imul, 1) := by decide +kernel
theorem dX9_advanceOn_21 : decode cX9_advanceOn 21 = .ok (.iadd, 1) := by decide +kernel
theorem dX9_advanceOn_22 : decode cX9_advanceOn 22 = .ok (.aload_n 0, 1) := by decide +kernel
theorem dX9_advanceOn_23 : decode cX9_advanceOn 23 = .ok (.iload_n 2, 1) := by decide +kernel
theorem dX9_advanceOn_24 : decode cX9_advanceOn 24 = .ok (.iconst 0, 1) := by decide +kernel
theorem dX9_advanceOn_25 : decode cX9_advanceOn 25 = .ok (.invokestatic 45, 3) := by decide +kernel
theorem dX9_advanceOn_28 : decode cX9_advanceOn 28 = .ok (.iastore, 1) := by decide +kernel
theorem dX9_advanceOn_29 : decode cX9_advanceOn 29 = .ok (.aload_n 0, 1) := by decide +kernel
theorem dX9_advanceOn_30 : decode cX9_advanceOn 30 = .ok (.iload 4, 2) := by decide +kernel
theorem dX9_advanceOn_32 : decode cX9_advanceOn 32 = .ok (.iconst 2, 1) := by decide +kernel
theorem dX9_advanceOn_33 : decode cX9_advanceOn 33 = .ok (.iadd, 1) := by decide +kernel
theorem dX9_advanceOn_34 : decode cX9_advanceOn 34 = .ok (.iconst 2, 1) := by decide +kernel
theorem dX9_advanceOn_35 : decode cX9_advanceOn 35 = .ok (.iload 5, 2) := by decide +kernel
theorem dX9_advanceOn_37 : decode cX9_advanceOn 37 = .ok (.imul, 1) := by decide +kernel
theorem dX9_advanceOn_38 : decode cX9_advanceOn 38 = .ok (.iadd, 1) := by decide +kernel
theorem dX9_advanceOn_39 : decode cX9_advanceOn 39 = .ok (.aload_n 0, 1) := by decide +kernel
theorem dX9_advanceOn_40 : decode cX9_advanceOn 40 = .ok (.iconst 0, 1) := by decide +kernel
theorem dX9_advanceOn_41 : decode cX9_advanceOn 41 = .ok (.iaload, 1) := by decide +kernel
theorem dX9_advanceOn_42 : decode cX9_advanceOn 42 = .ok (.iload_n 3, 1) := by decide +kernel
theorem dX9_advanceOn_43 : decode cX9_advanceOn 43 = .ok (.iadd, 1) := by decide +kernel
theorem dX9_advanceOn_44 : decode cX9_advanceOn 44 = .ok (.iastore, 1) := by decide +kernel
theorem dX9_advanceOn_45 : decode cX9_advanceOn 45 = .ok (.aload_n 0, 1) := by decide +kernel
theorem dX9_advanceOn_46 : decode cX9_advanceOn 46 = .ok (.iload 4, 2) := by decide +kernel
theorem dX9_advanceOn_48 : decode cX9_advanceOn 48 = .ok (.dup2, 1) := by decide +kernel
theorem dX9_advanceOn_49 : decode cX9_advanceOn 49 = .ok (.iaload, 1) := by decide +kernel
theorem dX9_advanceOn_50 : decode cX9_advanceOn 50 = .ok (.iconst 1, 1) := by decide +kernel
theorem dX9_advanceOn_51 : decode cX9_advanceOn 51 = .ok (.iadd, 1) := by decide +kernel
theorem dX9_advanceOn_52 : decode cX9_advanceOn 52 = .ok (.iastore, 1) := by decide +kernel
theorem dX9_advanceOn_53 : decode cX9_advanceOn 53 = .ok (.aload_n 0, 1) := by decide +kernel
theorem dX9_advanceOn_54 : decode cX9_advanceOn 54 = .ok (.iload_n 2, 1) := by decide +kernel
theorem dX9_advanceOn_55 : decode cX9_advanceOn 55 = .ok (.iload_n 1, 1) := by decide +kernel
theorem dX9_advanceOn_56 : decode cX9_advanceOn 56 = .ok (.invokestatic 93, 3) := by decide +kernel
theorem dX9_advanceOn_59 : decode cX9_advanceOn 59 = .ok (.aload_n 0, 1) := by decide +kernel
theorem dX9_advanceOn_60 : decode cX9_advanceOn 60 = .ok (.bipush 7, 2) := by decide +kernel
theorem dX9_advanceOn_62 : decode cX9_advanceOn 62 = .ok (.dup2, 1) := by decide +kernel
theorem dX9_advanceOn_63 : decode cX9_advanceOn 63 = .ok (.iaload, 1) := by decide +kernel
theorem dX9_advanceOn_64 : decode cX9_advanceOn 64 = .ok (.iconst 1, 1) := by decide +kernel
theorem dX9_advanceOn_65 : decode cX9_advanceOn 65 = .ok (.iadd, 1) := by decide +kernel
theorem dX9_advanceOn_66 : decode cX9_advanceOn 66 = .ok (.iastore, 1) := by decide +kernel
theorem dX9_advanceOn_67 : decode cX9_advanceOn 67 = .ok (.aload_n 0, 1) := by decide +kernel
theorem dX9_advanceOn_68 : decode cX9_advanceOn 68 = .ok (.iconst 0, 1) := by decide +kernel
theorem dX9_advanceOn_69 : decode cX9_advanceOn 69 = .ok (.iaload, 1) := by decide +kernel
theorem dX9_advanceOn_70 : decode cX9_advanceOn 70 = .ok (.iload_n 3, 1) := by decide +kernel
theorem dX9_advanceOn_71 : decode cX9_advanceOn 71 = .ok (.iadd, 1) := by decide +kernel
theorem dX9_advanceOn_72 : decode cX9_advanceOn 72 = .ok (.ireturn, 1) := by decide +kernel
set_option maxRecDepth 20000 in
theorem ggX9_oldest_X9_coresAt : GoodIn wsX9_oldest wsX9_coresAt := goodIn_r _ [4] (by decide +kernel) (by decide +kernel)
set_option maxRecDepth 20000 in
theorem gX9_oldest_X9_coresAt : GoodIn wsX9_oldest (va_wsS RX9 97 yX9_coresAt wsX9_coresAt) := goodIn_app (goodIn_of _ (by decide +kernel)) ggX9_oldest_X9_coresAt
theorem dX9_oldest_0 : decode cX9_oldest 0 = .ok (.iload_n 1, 1) := by decide +kernel
theorem dX9_oldest_1 : decode cX9_oldest 1 = .ok (.invokestatic 97, 3) := by decide +kernel
theorem dX9_oldest_4 : decode cX9_oldest 4 = .ok (.istore_n 3, 1) := by decide +kernel
theorem dX9_oldest_5 : decode cX9_oldest 5 = .ok (.iconst 0, 1) := by decide +kernel
theorem dX9_oldest_6 : decode cX9_oldest 6 = .ok (.istore 4, 2) := by decide +kernel
theorem dX9_oldest_8 : decode cX9_oldest 8 = .ok (.iload 4, 2) := by decide +kernel
theorem dX9_oldest_10 : decode cX9_oldest 10 = .ok (.aload_n 0, 1) := by decide +kernel
theorem dX9_oldest_11 : decode cX9_oldest 11 = .ok (.iload_n 3, 1) := by decide +kernel
theorem dX9_oldest_12 : decode cX9_oldest 12 = .ok (.iaload, 1) := by decide +kernel
theorem dX9_oldest_13 : decode cX9_oldest 13 = .ok (.if_icmp .ge 26, 3) := by decide +kernel
theorem dX9_oldest_16 : decode cX9_oldest 16 = .ok (.aload_n 0, 1) := by decide +kernel
theorem dX9_oldest_17 : decode cX9_oldest 17 = .ok (.iload_n 3, 1) := by decide +kernel
theorem dX9_oldest_18 : decode cX9_oldest 18 = .ok (.iconst 1, 1) := by decide +kernel
theorem dX9_oldest_19 : decode cX9_oldest 19 = .ok (.iadd, 1) := by decide +kernel
theorem dX9_oldest_20 : decode cX9_oldest 20 = .ok (.iconst 2, 1) := by decide +kernel
theorem dX9_oldest_21 : decode cX9_oldest 21 = .ok (.iload 4, 2) := by decide +kernel
theorem dX9_oldest_23 : decode cX9_oldest 23 = .ok (.imul, 1) := by decide +kernel
theorem dX9_oldest_24 : decode cX9_oldest 24 = .ok (.iadd, 1) := by decide +kernel
theorem dX9_oldest_25 : decode cX9_oldest 25 = .ok (.iaload, 1) := by decide +kernel
theorem dX9_oldest_26 : decode cX9_oldest 26 = .ok (.iload_n 2, 1) := by decide +kernel
theorem dX9_oldest_27 : decode cX9_oldest 27 = .ok (.if_icmp .ne 6, 3) := by decide +kernel
theorem dX9_oldest_30 : decode cX9_oldest 30 = .ok (.iload 4, 2) := by decide +kernel
theorem dX9_oldest_32 : decode cX9_oldest 32 = .ok (.ireturn, 1) := by decide +kernel
theorem dX9_oldest_33 : decode cX9_oldest 33 = .ok (.iinc 4 1, 3) := by decide +kernel
theorem dX9_oldest_36 : decode cX9_oldest 36 = .ok (.goto (-28), 3) := by decide +kernel
theorem dX9_oldest_39 : decode cX9_oldest 39 = .ok (.iconst (-1), 1) := by decide +kernel
theorem dX9_oldest_40 : decode cX9_oldest 40 = .ok (.ireturn, 1) := by decide +kernel
set_option maxRecDepth 20000 in
theorem ggX9_whyNotDeliver_X9_isUnit : GoodIn wsX9_whyNotDeliver wsX9_isUnit := goodIn_r _ [4, 5, 6, 3, 7] (by decide +kernel) (by decide +kernel)
set_option maxRecDepth 20000 in
theorem gX9_whyNotDeliver_X9_isUnit : GoodIn wsX9_whyNotDeliver (va_wsS RX9 69 yX9_isUnit wsX9_isUnit) := goodIn_app (goodIn_of _ (by decide +kernel)) ggX9_whyNotDeliver_X9_isUnit
set_option maxRecDepth 20000 in
theorem ggX9_whyNotDeliver_X9_isCore : GoodIn wsX9_whyNotDeliver wsX9_isCore := goodIn_r _ [10, 11, 12, 3, 13, 14, 15, 16] (by decide +kernel) (by decide +kernel)
set_option maxRecDepth 20000 in
theorem gX9_whyNotDeliver_X9_isCore : GoodIn wsX9_whyNotDeliver (va_wsS RX9 80 yX9_isCore wsX9_isCore) := goodIn_app (goodIn_of _ (by decide +kernel)) ggX9_whyNotDeliver_X9_isCore
set_option maxRecDepth 20000 in
theorem ggX9_whyNotDeliver_X9_of : GoodIn wsX9_whyNotDeliver wsX9_of := goodIn_r _ [13] (by decide +kernel) (by decide +kernel)
set_option maxRecDepth 20000 in
theorem gX9_whyNotDeliver_X9_of : GoodIn wsX9_whyNotDeliver (va_wsS RX9 45 yX9_of wsX9_of) := goodIn_app (goodIn_of _ (by decide +kernel)) ggX9_whyNotDeliver_X9_of
set_option maxRecDepth 20000 in
theorem ggX9_whyNotDeliver_X9_oldest : GoodIn wsX9_whyNotDeliver wsX9_oldest := goodIn_r _ [19, 20, 21, 3, 22] (by decide +kernel) (by decide +kernel)
set_option maxRecDepth 20000 in
theorem gX9_whyNotDeliver_X9_oldest : GoodIn wsX9_whyNotDeliver (va_wsS RX9 101 yX9_oldest wsX9_oldest) := goodIn_app (goodIn_of _ (by decide +kernel)) ggX9_whyNotDeliver_X9_oldest
theorem dX9_whyNotDeliver_0 : decode cX9_whyNotDeliver 0 = .ok (.aload_n 0, 1) := by decide +kernel
theorem dX9_whyNotDeliver_1 : decode cX9_whyNotDeliver 1 = .ok (.iload_n 1, 1) := by decide +kernel
theorem dX9_whyNotDeliver_2 : decode cX9_whyNotDeliver 2 = .ok (.invokestatic 69, 3) := by decide +kernel
theorem dX9_whyNotDeliver_5 : decode cX9_whyNotDeliver 5 = .ok (.ifCond .ne 7, 3) := by decide +kernel
theorem dX9_whyNotDeliver_8 : decode cX9_whyNotDeliver 8 = .ok (.iconst 1, 1) := by decide +kernel
theorem dX9_whyNotDeliver_9 : decode cX9_whyNotDeliver 9 = .ok (.goto 36, 3) := by decide +kernel
theorem dX9_whyNotDeliver_12 : decode cX9_whyNotDeliver 12 = .ok (.aload_n 0, 1) := by decide +kernel
