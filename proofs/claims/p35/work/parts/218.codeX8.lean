set_option maxRecDepth 20000 in
theorem ggX8_init_X6_init : GoodIn wsX8_init wsX6_init := goodIn_r _ [21, 22, 2, 3, 23, 24, 69, 70, 71, 72, 73, 74, 75] (by decide +kernel) (by decide +kernel)
set_option maxRecDepth 20000 in
theorem gX8_init_X6_init_n9 : GoodIn wsX8_init (wsX6_init) := ggX8_init_X6_init
set_option maxRecDepth 20000 in
theorem ggX8_init_X5_init : GoodIn wsX8_init wsX5_init := goodIn_r _ [26, 27, 2, 3, 28, 29, 30, 31, 32, 33, 34, 35, 36, 37, 38, 39, 23, 40, 41, 42, 43, 44, 45, 46, 47, 48, 49, 50, 51, 52, 53, 54, 55, 56, 57, 58, 59, 60, 61, 62, 63, 94, 95, 96, 97, 98, 99, 82, 83, 84, 85, 86, 87, 88, 89, 90, 100, 101, 102, 103] (by decide +kernel) (by decide +kernel)
set_option maxRecDepth 20000 in
theorem gX8_init_X5_init_n18 : GoodIn wsX8_init (wsX5_init) := ggX8_init_X5_init
set_option maxRecDepth 20000 in
theorem ggX8_init_X2_init : GoodIn wsX8_init wsX2_init := goodIn_r _ [65, 66, 2, 3, 67, 68, 9, 10, 25, 26, 27, 28, 29, 30, 31, 32, 33, 34, 35, 36, 37, 38, 39, 23, 40, 41, 42, 43, 44, 45, 46, 47, 48, 49, 50, 51, 52, 53, 54, 55, 56, 57, 58, 59, 60, 61, 62, 63, 91, 92, 93, 82, 83, 84, 85, 86, 87, 88, 89, 90, 94, 95, 96, 97, 98, 99, 100, 101, 102, 103] (by decide +kernel) (by decide +kernel)
set_option maxRecDepth 20000 in
theorem gX8_init_X2_init_n28 : GoodIn wsX8_init (wsX2_init) := ggX8_init_X2_init
theorem dX8_init_0 : decode cX8_init 0 = .ok (.aload_n 0, 1) := by decide +kernel
theorem dX8_init_1 : decode cX8_init 1 = .ok (.invokespecial 1, 3) := by decide +kernel
theorem dX8_init_4 : decode cX8_init 4 = .ok (.aload_n 0, 1) := by decide +kernel
theorem dX8_init_5 : decode cX8_init 5 = .ok (.new 7, 3) := by decide +kernel
theorem dX8_init_8 : decode cX8_init 8 = .ok (.dup, 1) := by decide +kernel
theorem dX8_init_9 : decode cX8_init 9 = .ok (.invokespecial 9, 3) := by decide +kernel
theorem dX8_init_12 : decode cX8_init 12 = .ok (.putfield 10, 3) := by decide +kernel
theorem dX8_init_15 : decode cX8_init 15 = .ok (.aload_n 0, 1) := by decide +kernel
theorem dX8_init_16 : decode cX8_init 16 = .ok (.new 16, 3) := by decide +kernel
theorem dX8_init_19 : decode cX8_init 19 = .ok (.dup, 1) := by decide +kernel
theorem dX8_init_20 : decode cX8_init 20 = .ok (.invokespecial 18, 3) := by decide +kernel
theorem dX8_init_23 : decode cX8_init 23 = .ok (.putfield 19, 3) := by decide +kernel
theorem dX8_init_26 : decode cX8_init 26 = .ok (.aload_n 0, 1) := by decide +kernel
theorem dX8_init_27 : decode cX8_init 27 = .ok (.new 16, 3) := by decide +kernel
theorem dX8_init_30 : decode cX8_init 30 = .ok (.dup, 1) := by decide +kernel
theorem dX8_init_31 : decode cX8_init 31 = .ok (.invokespecial 18, 3) := by decide +kernel
theorem dX8_init_34 : decode cX8_init 34 = .ok (.putfield 23, 3) := by decide +kernel
theorem dX8_init_37 : decode cX8_init 37 = .ok (.aload_n 0, 1) := by decide +kernel
theorem dX8_init_38 : decode cX8_init 38 = .ok (.new 26, 3) := by decide +kernel
theorem dX8_init_41 : decode cX8_init 41 = .ok (.dup, 1) := by decide +kernel
theorem dX8_init_42 : decode cX8_init 42 = .ok (.invokespecial 28, 3) := by decide +kernel
theorem dX8_init_45 : decode cX8_init 45 = .ok (.putfield 29, 3) := by decide +kernel
theorem dX8_init_48 : decode cX8_init 48 = .ok (.aload_n 0, 1) := by decide +kernel
theorem dX8_init_49 : decode cX8_init 49 = .ok (.iconst 2, 1) := by decide +kernel
theorem dX8_init_50 : decode cX8_init 50 = .ok (.anewarray 16, 3) := by decide +kernel
theorem dX8_init_53 : decode cX8_init 53 = .ok (.putfield 33, 3) := by decide +kernel
theorem dX8_init_56 : decode cX8_init 56 = .ok (.aload_n 0, 1) := by decide +kernel
theorem dX8_init_57 : decode cX8_init 57 = .ok (.iconst 2, 1) := by decide +kernel
theorem dX8_init_58 : decode cX8_init 58 = .ok (.newarray .boolean, 2) := by decide +kernel
theorem dX8_init_60 : decode cX8_init 60 = .ok (.putfield 37, 3) := by decide +kernel
theorem dX8_init_63 : decode cX8_init 63 = .ok (.iconst 0, 1) := by decide +kernel
theorem dX8_init_64 : decode cX8_init 64 = .ok (.istore_n 1, 1) := by decide +kernel
theorem dX8_init_65 : decode cX8_init 65 = .ok (.iload_n 1, 1) := by decide +kernel
theorem dX8_init_66 : decode cX8_init 66 = .ok (.iconst 2, 1) := by decide +kernel
theorem dX8_init_67 : decode cX8_init 67 = .ok (.if_icmp .ge 22, 3) := by decide +kernel
theorem dX8_init_70 : decode cX8_init 70 = .ok (.aload_n 0, 1) := by decide +kernel
theorem dX8_init_71 : decode cX8_init 71 = .ok (.getfield 33, 3) := by decide +kernel
theorem dX8_init_74 : decode cX8_init 74 = .ok (.iload_n 1, 1) := by decide +kernel
theorem dX8_init_75 : decode cX8_init 75 = .ok (.new 16, 3) := by decide +kernel
theorem dX8_init_78 : decode cX8_init 78 = .ok (.dup, 1) := by decide +kernel
theorem dX8_init_79 : decode cX8_init 79 = .ok (.invokespecial 18, 3) := by decide +kernel
theorem dX8_init_82 : decode cX8_init 82 = .ok (.aastore, 1) := by decide +kernel
theorem dX8_init_83 : decode cX8_init 83 = .ok (.iinc 1 1, 3) := by decide +kernel
theorem dX8_init_86 : decode cX8_init 86 = .ok (.goto (-21), 3) := by decide +kernel
theorem dX8_init_89 : decode cX8_init 89 = .ok (.return_, 1) := by decide +kernel
set_option maxRecDepth 20000 in
theorem ggX8_append_X6_add : GoodIn wsX8_append wsX6_add := goodIn_r _ [9, 10, 11, 18, 19, 20, 21, 22, 23, 24] (by decide +kernel) (by decide +kernel)
set_option maxRecDepth 20000 in
theorem gX8_append_X6_add_n51 : GoodIn wsX8_append (wsX6_add) := ggX8_append_X6_add
theorem dX8_append_0 : decode cX8_append 0 = .ok (.iload_n 1, 1) := by decide +kernel
theorem dX8_append_1 : decode cX8_append 1 = .ok (.ifCond .lt 10, 3) := by decide +kernel
theorem dX8_append_4 : decode cX8_append 4 = .ok (.iload_n 1, 1) := by decide +kernel
theorem dX8_append_5 : decode cX8_append 5 = .ok (.sipush 255, 3) := by decide +kernel
theorem dX8_append_8 : decode cX8_append 8 = .ok (.if_icmp .le 11, 3) := by decide +kernel
theorem dX8_append_11 : decode cX8_append 11 = .ok (.new 41, 3) := by decide +kernel
theorem dX8_append_14 : decode cX8_append 14 = .ok (.dup, 1) := by decide +kernel
theorem dX8_append_15 : decode cX8_append 15 = .ok (.invokespecial 43, 3) := by decide +kernel
theorem dX8_append_18 : decode cX8_append 18 = .ok (.athrow, 1) := by decide +kernel
theorem dX8_append_19 : decode cX8_append 19 = .ok (.aload_n 0, 1) := by decide +kernel
theorem dX8_append_20 : decode cX8_append 20 = .ok (.getfield 10, 3) := by decide +kernel
theorem dX8_append_23 : decode cX8_append 23 = .ok (.getfield 44, 3) := by decide +kernel
theorem dX8_append_26 : decode cX8_append 26 = .ok (.bipush 120, 2) := by decide +kernel
theorem dX8_append_28 : decode cX8_append 28 = .ok (.if_icmp .lt 11, 3) := by decide +kernel
theorem dX8_append_31 : decode cX8_append 31 = .ok (.new 48, 3) := by decide +kernel
theorem dX8_append_34 : decode cX8_append 34 = .ok (.dup, 1) := by decide +kernel
theorem dX8_append_35 : decode cX8_append 35 = .ok (.invokespecial 50, 3) := by decide +kernel
theorem dX8_append_38 : decode cX8_append 38 = .ok (.athrow, 1) := by decide +kernel
theorem dX8_append_39 : decode cX8_append 39 = .ok (.aload_n 0, 1) := by decide +kernel
theorem dX8_append_40 : decode cX8_append 40 = .ok (.getfield 10, 3) := by decide +kernel
theorem dX8_append_43 : decode cX8_append 43 = .ok (.iload_n 1, 1) := by decide +kernel
theorem dX8_append_44 : decode cX8_append 44 = .ok (.invokevirtual 51, 3) := by decide +kernel
theorem dX8_append_47 : decode cX8_append 47 = .ok (.ireturn, 1) := by decide +kernel
theorem dX8_clearText_0 : decode cX8_clearText 0 = .ok (.aload_n 0, 1) := by decide +kernel
theorem dX8_clearText_1 : decode cX8_clearText 1 = .ok (.getfield 10, 3) := by decide +kernel
theorem dX8_clearText_4 : decode cX8_clearText 4 = .ok (.getfield 44, 3) := by decide +kernel
theorem dX8_clearText_7 : decode cX8_clearText 7 = .ok (.istore_n 1, 1) := by decide +kernel
theorem dX8_clearText_8 : decode cX8_clearText 8 = .ok (.aload_n 0, 1) := by decide +kernel
theorem dX8_clearText_9 : decode cX8_clearText 9 = .ok (.getfield 10, 3) := by decide +kernel
theorem dX8_clearText_12 : decode cX8_clearText 12 = .ok (.iconst 0, 1) := by decide +kernel
theorem dX8_clearText_13 : decode cX8_clearText 13 = .ok (.putfield 44, 3) := by decide +kernel
theorem dX8_clearText_16 : decode cX8_clearText 16 = .ok (.iload_n 1, 1) := by decide +kernel
theorem dX8_clearText_17 : decode cX8_clearText 17 = .ok (.ireturn, 1) := by decide +kernel
set_option maxRecDepth 20000 in
theorem ggX8_errorPosition_X6_firstError : GoodIn wsX8_errorPosition wsX6_firstError := goodIn_r _ [5, 6, 7, 8, 9, 10, 11, 3, 12, 13, 14, 15, 16, 17, 18, 19, 20, 21, 22, 23, 24, 25, 26, 27, 28, 29, 30, 31, 32, 33, 34, 35, 36, 37, 38, 39, 40, 41, 42, 43, 44, 45, 46, 47, 48, 49, 50, 51, 52, 53, 54, 55, 56, 57, 58, 59, 60, 61, 62, 63, 64, 65, 66, 67, 68, 69, 70, 71, 72, 73, 74, 75, 76, 77, 78, 79, 80, 81, 82, 83, 84, 85, 86, 87, 88, 89, 96, 97, 98, 99, 100, 101, 102] (by decide +kernel) (by decide +kernel)
set_option maxRecDepth 20000 in
theorem gX8_errorPosition_X6_firstError_n55 : GoodIn wsX8_errorPosition (wsX6_firstError) := ggX8_errorPosition_X6_firstError
theorem dX8_errorPosition_0 : decode cX8_errorPosition 0 = .ok (.aload_n 0, 1) := by decide +kernel
theorem dX8_errorPosition_1 : decode cX8_errorPosition 1 = .ok (.getfield 10, 3) := by decide +kernel
theorem dX8_errorPosition_4 : decode cX8_errorPosition 4 = .ok (.invokevirtual 55, 3) := by decide +kernel
theorem dX8_errorPosition_7 : decode cX8_errorPosition 7 = .ok (.ireturn, 1) := by decide +kernel
set_option maxRecDepth 20000 in
theorem ggX8_load_X6_firstError : GoodIn wsX8_load wsX6_firstError := goodIn_r _ [10, 11, 12, 13, 14, 15, 16, 8, 17, 18, 19, 20, 21, 22, 23, 24, 25, 26, 27, 28, 29, 30, 31, 32, 33, 34, 35, 36, 37, 38, 39, 40, 41, 42, 43, 44, 45, 46, 47, 48, 49, 50, 51, 52, 53, 54, 55, 56, 57, 58, 59, 60, 61, 62, 63, 64, 65, 66, 67, 68, 69, 70, 71, 72, 73, 74, 75, 76, 77, 78, 79, 80, 81, 82, 83, 84, 85, 86, 87, 88, 89, 90, 91, 92, 93, 94, 245, 246, 247, 248, 249, 250, 251] (by decide +kernel) (by decide +kernel)
set_option maxRecDepth 20000 in
theorem gX8_load_X6_firstError_n55 : GoodIn wsX8_load (wsX6_firstError) := ggX8_load_X6_firstError
set_option maxRecDepth 20000 in
theorem ggX8_load_X5_startAnew : GoodIn wsX8_load wsX5_startAnew := goodIn_r _ [98, 99, 100, 101, 102, 103, 104, 105, 106, 107, 108, 109, 110, 111, 112, 113, 114, 115, 116, 117, 118, 119, 120, 121, 252, 253, 254, 255, 256, 257, 258, 259, 260, 261, 262, 263, 264, 265, 266, 267, 268, 269, 270] (by decide +kernel) (by decide +kernel)
set_option maxRecDepth 20000 in
theorem gX8_load_X5_startAnew_n59 : GoodIn wsX8_load (wsX5_startAnew) := ggX8_load_X5_startAnew
set_option maxRecDepth 20000 in
theorem ggX8_load_X2_forgetAll : GoodIn wsX8_load wsX2_forgetAll := goodIn_r _ [125, 126, 271, 272, 273] (by decide +kernel) (by decide +kernel)
set_option maxRecDepth 20000 in
theorem gX8_load_X2_forgetAll_n62 : GoodIn wsX8_load (wsX2_forgetAll) := ggX8_load_X2_forgetAll
set_option maxRecDepth 20000 in
theorem ggX8_load_X8_doText : GoodIn wsX8_load wsX8_doText := goodIn_r _ [131, 3, 15, 8, 16, 17, 13, 11, 12, 18, 19, 20, 21, 22, 23, 24, 25, 26, 27, 28, 29, 30, 31, 32, 33, 34, 35, 36, 37, 38, 39, 40, 41, 42, 43, 44, 45, 46, 47, 48, 49, 50, 51, 52, 53, 54, 55, 56, 57, 58, 59, 60, 61, 62, 63, 64, 65, 66, 67, 68, 69, 70, 71, 72, 73, 74, 75, 76, 77, 78, 79, 80, 81, 82, 83, 84, 85, 86, 87, 88, 89, 90, 91, 92, 93, 94, 132, 133, 134, 130, 135, 4, 136, 96, 137, 138, 99, 139, 140, 141, 142, 143, 144, 145, 146, 147, 148, 149, 150, 151, 152, 153, 154, 155, 156, 157, 158, 159, 160, 161, 162, 163, 108, 164, 165, 166, 167, 168, 169, 170, 171, 172, 173, 174, 175, 176, 177, 178, 179, 103, 180, 181, 182, 183, 184, 185, 186, 187, 102, 111, 188, 189, 190, 110, 191, 192, 193, 194, 195, 196, 197, 198, 199, 200, 201, 202, 203, 204, 205, 206, 207, 208, 209, 210, 211, 212, 213, 214, 215, 216, 217, 218, 109, 101, 219, 220, 221, 222, 223, 224, 225, 226, 227, 118, 228, 229, 121, 230, 231, 232, 233, 234, 235, 236, 237, 238, 239, 240, 241, 242, 243, 244, 245, 246, 247, 248, 249, 250, 251, 252, 253, 254, 255, 256, 257, 258, 259, 260, 261, 262, 263, 264, 265, 266, 270] (by decide +kernel) (by decide +kernel)
set_option maxRecDepth 20000 in
theorem gX8_load_X8_doText : GoodIn wsX8_load (wsV RX8 65 RX8 yX8_doText wsX8_doText) := goodIn_app (goodIn_of _ (by decide +kernel)) ggX8_load_X8_doText
theorem dX8_load_0 : decode cX8_load 0 = .ok (.aload_n 0, 1) := by decide +kernel
theorem dX8_load_1 : decode cX8_load 1 = .ok (.getfield 10, 3) := by decide +kernel
theorem dX8_load_4 : decode cX8_load 4 = .ok (.invokevirtual 55, 3) := by decide +kernel
theorem dX8_load_7 : decode cX8_load 7 = .ok (.iconst (-1), 1) := by decide +kernel
theorem dX8_load_8 : decode cX8_load 8 = .ok (.if_icmp .eq 11, 3) := by decide +kernel
theorem dX8_load_11 : decode cX8_load 11 = .ok (.new 48, 3) := by decide +kernel
theorem dX8_load_14 : decode cX8_load 14 = .ok (.dup, 1) := by decide +kernel
theorem dX8_load_15 : decode cX8_load 15 = .ok (.invokespecial 50, 3) := by decide +kernel
theorem dX8_load_18 : decode cX8_load 18 = .ok (.athrow, 1) := by decide +kernel
theorem dX8_load_19 : decode cX8_load 19 = .ok (.aload_n 0, 1) := by decide +kernel
theorem dX8_load_20 : decode cX8_load 20 = .ok (.getfield 19, 3) := by decide +kernel
theorem dX8_load_23 : decode cX8_load 23 = .ok (.invokevirtual 59, 3) := by decide +kernel
theorem dX8_load_26 : decode cX8_load 26 = .ok (.aload_n 0, 1) := by decide +kernel
theorem dX8_load_27 : decode cX8_load 27 = .ok (.getfield 29, 3) := by decide +kernel
theorem dX8_load_30 : decode cX8_load 30 = .ok (.invokevirtual 62, 3) := by decide +kernel
theorem dX8_load_33 : decode cX8_load 33 = .ok (.iconst 0, 1) := by decide +kernel
theorem dX8_load_34 : decode cX8_load 34 = .ok (.istore_n 1, 1) := by decide +kernel
theorem dX8_load_35 : decode cX8_load 35 = .ok (.iload_n 1, 1) := by decide +kernel
theorem dX8_load_36 : decode cX8_load 36 = .ok (.iconst 2, 1) := by decide +kernel
theorem dX8_load_37 : decode cX8_load 37 = .ok (.if_icmp .ge 16, 3) := by decide +kernel
theorem dX8_load_40 : decode cX8_load 40 = .ok (.aload_n 0, 1) := by decide +kernel
theorem dX8_load_41 : decode cX8_load 41 = .ok (.getfield 37, 3) := by decide +kernel
theorem dX8_load_44 : decode cX8_load 44 = .ok (.iload_n 1, 1) := by decide +kernel
theorem dX8_load_45 : decode cX8_load 45 = .ok (.iconst 0, 1) := by decide +kernel
theorem dX8_load_46 : decode cX8_load 46 = .ok (.bastore, 1) := by decide +kernel
theorem dX8_load_47 : decode cX8_load 47 = .ok (.iinc 1 1, 3) := by decide +kernel
theorem dX8_load_50 : decode cX8_load 50 = .ok (.goto (-15), 3) := by decide +kernel
theorem dX8_load_53 : decode cX8_load 53 = .ok (.aload_n 0, 1) := by decide +kernel
theorem dX8_load_54 : decode cX8_load 54 = .ok (.invokevirtual 65, 3) := by decide +kernel
theorem dX8_load_57 : decode cX8_load 57 = .ok (.ireturn, 1) := by decide +kernel
set_option maxRecDepth 20000 in
theorem ggX8_doText_X6_readCommand : GoodIn wsX8_doText wsX6_readCommand := goodIn_r _ [5, 6, 7, 8, 9, 10, 11, 3, 12, 13, 14, 15, 16, 17, 18, 19, 20, 21, 22, 23, 24, 25, 26, 27, 28, 29, 30, 31, 32, 33, 34, 35, 36, 37, 38, 39, 40, 41, 42, 43, 44, 45, 46, 47, 48, 49, 50, 51, 52, 53, 54, 55, 56, 57, 58, 59, 60, 61, 62, 63, 64, 65, 66, 67, 68, 69, 70, 71, 72, 73, 74, 75, 76, 77, 78, 79, 80, 81, 82, 83, 84, 85, 212, 213, 214, 215, 216, 217, 218] (by decide +kernel) (by decide +kernel)
set_option maxRecDepth 20000 in
theorem gX8_doText_X6_readCommand_n68 : GoodIn wsX8_doText (wsX6_readCommand) := ggX8_doText_X6_readCommand
set_option maxRecDepth 20000 in
theorem ggX8_doText_X8_doTextCommand : GoodIn wsX8_doText wsX8_doTextCommand := goodIn_r _ [90, 1, 91, 92, 93, 94, 95, 96, 97, 89, 98, 99, 100, 101, 102, 103, 104, 105, 106, 107, 108, 109, 110, 111, 112, 113, 114, 115, 116, 117, 118, 119, 120, 121, 122, 123, 124, 125, 126, 127, 128, 129, 130, 131, 132, 133, 134, 135, 136, 137, 138, 139, 140, 141, 142, 143, 144, 145, 146, 147, 148, 149, 150, 151, 152, 153, 154, 155, 156, 157, 158, 159, 160, 161, 162, 163, 164, 165, 166, 167, 168, 169, 170, 171, 172, 173, 174, 175, 176, 177, 178, 179, 180, 181, 182, 183, 184, 185, 186, 187, 188, 189, 190, 191, 192, 193, 194, 195, 196, 197, 198, 199, 200, 201, 202, 203, 204, 205, 206, 207, 208, 209, 210, 211, 212, 213, 214, 215, 216, 217, 218, 219, 220, 221, 222, 223, 224, 225, 226, 227, 228, 229, 230, 231, 232, 233, 234] (by decide +kernel) (by decide +kernel)
set_option maxRecDepth 20000 in
theorem gX8_doText_X8_doTextCommand : GoodIn wsX8_doText (wsV RX8 74 RX8 yX8_doTextCommand wsX8_doTextCommand) := goodIn_app (goodIn_of _ (by decide +kernel)) ggX8_doText_X8_doTextCommand
theorem dX8_doText_0 : decode cX8_doText 0 = .ok (.iconst 0, 1) := by decide +kernel
theorem dX8_doText_1 : decode cX8_doText 1 = .ok (.istore_n 1, 1) := by decide +kernel
theorem dX8_doText_2 : decode cX8_doText 2 = .ok (.iconst 1, 1) := by decide +kernel
theorem dX8_doText_3 : decode cX8_doText 3 = .ok (.istore_n 2, 1) := by decide +kernel
theorem dX8_doText_4 : decode cX8_doText 4 = .ok (.iload_n 2, 1) := by decide +kernel
theorem dX8_doText_5 : decode cX8_doText 5 = .ok (.aload_n 0, 1) := by decide +kernel
theorem dX8_doText_6 : decode cX8_doText 6 = .ok (.getfield 10, 3) := by decide +kernel
theorem dX8_doText_9 : decode cX8_doText 9 = .ok (.getfield 44, 3) := by decide +kernel
theorem dX8_doText_12 : decode cX8_doText 12 = .ok (.if_icmp .ge 41, 3) := by decide +kernel
theorem dX8_doText_15 : decode cX8_doText 15 = .ok (.aload_n 0, 1) := by decide +kernel
theorem dX8_doText_16 : decode cX8_doText 16 = .ok (.getfield 10, 3) := by decide +kernel
theorem dX8_doText_19 : decode cX8_doText 19 = .ok (.iload_n 2, 1) := by decide +kernel
theorem dX8_doText_20 : decode cX8_doText 20 = .ok (.invokevirtual 68, 3) := by decide +kernel
theorem dX8_doText_23 : decode cX8_doText 23 = .ok (.istore_n 3, 1) := by decide +kernel
theorem dX8_doText_24 : decode cX8_doText 24 = .ok (.iload_n 3, 1) := by decide +kernel
theorem dX8_doText_25 : decode cX8_doText 25 = .ok (.iload_n 2, 1) := by decide +kernel
theorem dX8_doText_26 : decode cX8_doText 26 = .ok (.if_icmp .gt 5, 3) := by decide +kernel
theorem dX8_doText_29 : decode cX8_doText 29 = .ok (.iload_n 1, 1) := by decide +kernel
theorem dX8_doText_30 : decode cX8_doText 30 = .ok (.ireturn, 1) := by decide +kernel
theorem dX8_doText_31 : decode cX8_doText 31 = .ok (.aload_n 0, 1) := by decide +kernel
theorem dX8_doText_32 : decode cX8_doText 32 = .ok (.aload_n 0, 1) := by decide +kernel
theorem dX8_doText_33 : decode cX8_doText 33 = .ok (.getfield 10, 3) := by decide +kernel
theorem dX8_doText_36 : decode cX8_doText 36 = .ok (.getfield 71, 3) := by decide +kernel
theorem dX8_doText_39 : decode cX8_doText 39 = .ok (.invokevirtual 74, 3) := by decide +kernel
theorem dX8_doText_42 : decode cX8_doText 42 = .ok (.ifCond .ge 6, 3) := by decide +kernel
theorem dX8_doText_45 : decode cX8_doText 45 = .ok (.iinc 1 1, 3) := by decide +kernel
theorem dX8_doText_48 : decode cX8_doText 48 = .ok (.iload_n 3, 1) := by decide +kernel
theorem dX8_doText_49 : decode cX8_doText 49 = .ok (.istore_n 2, 1) := by decide +kernel
theorem dX8_doText_50 : decode cX8_doText 50 = .ok (.goto (-46), 3) := by decide +kernel
theorem dX8_doText_53 : decode cX8_doText 53 = .ok (.iload_n 1, 1) := by decide +kernel
theorem dX8_doText_54 : decode cX8_doText 54 = .ok (.ireturn, 1) := by decide +kernel
set_option maxRecDepth 20000 in
theorem ggX8_doTextCommand_X5_tryCome : GoodIn wsX8_doTextCommand wsX5_tryCome := goodIn_r _ [6, 7, 8, 9, 10, 11, 12, 13, 14, 15, 16, 17, 18, 19, 20, 21, 22, 23, 24, 25, 26, 27, 28, 29, 30, 131, 132, 133, 134, 135, 136, 137, 138, 139, 140, 141, 142, 143, 144, 145] (by decide +kernel) (by decide +kernel)
set_option maxRecDepth 20000 in
theorem gX8_doTextCommand_X5_tryCome_n86 : GoodIn wsX8_doTextCommand (wsX5_tryCome) := ggX8_doTextCommand_X5_tryCome
set_option maxRecDepth 20000 in
theorem ggX8_doTextCommand_X5_tryLend : GoodIn wsX8_doTextCommand wsX5_tryLend := goodIn_r _ [33, 7, 34, 28, 14, 29, 30, 17, 11, 9, 12, 35, 36, 37, 38, 39, 25, 24, 27, 131, 132, 133, 134, 135, 136, 137, 138, 139, 140, 141, 142, 143, 144, 145] (by decide +kernel) (by decide +kernel)
set_option maxRecDepth 20000 in
theorem gX8_doTextCommand_X5_tryLend_n90 : GoodIn wsX8_doTextCommand (wsX5_tryLend) := ggX8_doTextCommand_X5_tryLend
set_option maxRecDepth 20000 in
theorem ggX8_doTextCommand_X5_tryBring : GoodIn wsX8_doTextCommand wsX5_tryBring := goodIn_r _ [42, 7, 28, 14, 29, 30, 17, 37, 38, 39, 25, 24, 27, 43, 44, 45, 4, 46, 34, 47, 48, 49, 50, 51, 52, 53, 54, 55, 56, 57, 58, 59, 60, 61, 11, 9, 12, 21, 22, 23, 26, 131, 132, 133, 134, 135, 136, 137, 138, 139, 140, 141, 142, 143, 144, 145] (by decide +kernel) (by decide +kernel)
set_option maxRecDepth 20000 in
theorem gX8_doTextCommand_X5_tryBring_n93 : GoodIn wsX8_doTextCommand (wsX5_tryBring) := ggX8_doTextCommand_X5_tryBring
set_option maxRecDepth 20000 in
theorem ggX8_doTextCommand_X5_tryExchange : GoodIn wsX8_doTextCommand wsX5_tryExchange := goodIn_r _ [64, 7, 65, 28, 14, 29, 30, 17, 66, 67, 68, 24, 69, 37, 38, 39, 25, 27, 70, 71, 72, 73, 74, 75, 76, 19, 77, 78, 79, 4, 80, 51, 81, 82, 83, 84, 85, 86, 87, 88, 89, 90, 21, 22, 23, 26, 56, 57, 58, 59, 60, 61, 11, 9, 12, 131, 132, 133, 134, 135, 136, 137, 138, 139, 140, 141, 142, 143, 144, 145] (by decide +kernel) (by decide +kernel)
set_option maxRecDepth 20000 in
theorem gX8_doTextCommand_X5_tryExchange_n96 : GoodIn wsX8_doTextCommand (wsX5_tryExchange) := ggX8_doTextCommand_X5_tryExchange
set_option maxRecDepth 20000 in
theorem ggX8_doTextCommand_X5_tryTake : GoodIn wsX8_doTextCommand wsX5_tryTake := goodIn_r _ [93, 7, 94, 95, 28, 14, 29, 30, 17, 96, 9, 97, 98, 99, 100, 18, 25, 27, 101, 102, 103, 19, 104, 105, 106, 107, 108, 109, 110, 111, 11, 12, 8, 10, 112, 113, 114, 131, 132, 133, 134, 135, 136, 137, 138, 139, 140, 141, 142, 143, 144, 145, 146] (by decide +kernel) (by decide +kernel)
set_option maxRecDepth 20000 in
theorem gX8_doTextCommand_X5_tryTake_n100 : GoodIn wsX8_doTextCommand (wsX5_tryTake) := ggX8_doTextCommand_X5_tryTake
set_option maxRecDepth 20000 in
theorem ggX8_doTextCommand_X5_tryDays : GoodIn wsX8_doTextCommand wsX5_tryDays := goodIn_r _ [117, 34, 131, 132, 133, 134, 135, 136, 137, 138, 139] (by decide +kernel) (by decide +kernel)
set_option maxRecDepth 20000 in
theorem gX8_doTextCommand_X5_tryDays_n103 : GoodIn wsX8_doTextCommand (wsX5_tryDays) := ggX8_doTextCommand_X5_tryDays
theorem dX8_doTextCommand_0 : decode cX8_doTextCommand 0 = .ok (.aload_n 0, 1) := by decide +kernel
theorem dX8_doTextCommand_1 : decode cX8_doTextCommand 1 = .ok (.getfield 10, 3) := by decide +kernel
theorem dX8_doTextCommand_4 : decode cX8_doTextCommand 4 = .ok (.getfield 77, 3) := by decide +kernel
theorem dX8_doTextCommand_7 : decode cX8_doTextCommand 7 = .ok (.istore_n 2, 1) := by decide +kernel
theorem dX8_doTextCommand_8 : decode cX8_doTextCommand 8 = .ok (.aload_n 0, 1) := by decide +kernel
theorem dX8_doTextCommand_9 : decode cX8_doTextCommand 9 = .ok (.getfield 10, 3) := by decide +kernel
theorem dX8_doTextCommand_12 : decode cX8_doTextCommand 12 = .ok (.getfield 80, 3) := by decide +kernel
theorem dX8_doTextCommand_15 : decode cX8_doTextCommand 15 = .ok (.istore_n 3, 1) := by decide +kernel
theorem dX8_doTextCommand_16 : decode cX8_doTextCommand 16 = .ok (.aload_n 0, 1) := by decide +kernel
theorem dX8_doTextCommand_17 : decode cX8_doTextCommand 17 = .ok (.getfield 10, 3) := by decide +kernel
theorem dX8_doTextCommand_20 : decode cX8_doTextCommand 20 = .ok (.getfield 83, 3) := by decide +kernel
theorem dX8_doTextCommand_23 : decode cX8_doTextCommand 23 = .ok (.istore 4, 2) := by decide +kernel
theorem dX8_doTextCommand_25 : decode cX8_doTextCommand 25 = .ok (.iload_n 1, 1) := by decide +kernel
theorem dX8_doTextCommand_26 : decode cX8_doTextCommand 26 = .ok (.lookupswitch 122 #[(100, 113), (108, 70), (110, 58), (114, 82), (116, 101), (120, 91)], 58) := by decide +kernel
theorem dX8_doTextCommand_84 : decode cX8_doTextCommand 84 = .ok (.aload_n 0, 1) := by decide +kernel
theorem dX8_doTextCommand_85 : decode cX8_doTextCommand 85 = .ok (.getfield 19, 3) := by decide +kernel
theorem dX8_doTextCommand_88 : decode cX8_doTextCommand 88 = .ok (.iload_n 2, 1) := by decide +kernel
theorem dX8_doTextCommand_89 : decode cX8_doTextCommand 89 = .ok (.iload_n 3, 1) := by decide +kernel
theorem dX8_doTextCommand_90 : decode cX8_doTextCommand 90 = .ok (.iload 4, 2) := by decide +kernel
theorem dX8_doTextCommand_92 : decode cX8_doTextCommand 92 = .ok (.invokevirtual 86, 3) := by decide +kernel
theorem dX8_doTextCommand_95 : decode cX8_doTextCommand 95 = .ok (.ireturn, 1) := by decide +kernel
theorem dX8_doTextCommand_96 : decode cX8_doTextCommand 96 = .ok (.aload_n 0, 1) := by decide +kernel
theorem dX8_doTextCommand_97 : decode cX8_doTextCommand 97 = .ok (.getfield 19, 3) := by decide +kernel
theorem dX8_doTextCommand_100 : decode cX8_doTextCommand 100 = .ok (.iload_n 2, 1) := by decide +kernel
theorem dX8_doTextCommand_101 : decode cX8_doTextCommand 101 = .ok (.iload_n 3, 1) := by decide +kernel
theorem dX8_doTextCommand_102 : decode cX8_doTextCommand 102 = .ok (.iload 4, 2) := by decide +kernel
theorem dX8_doTextCommand_104 : decode cX8_doTextCommand 104 = .ok (.invokevirtual 90, 3) := by decide +kernel
theorem dX8_doTextCommand_107 : decode cX8_doTextCommand 107 = .ok (.ireturn, 1) := by decide +kernel
theorem dX8_doTextCommand_108 : decode cX8_doTextCommand 108 = .ok (.aload_n 0, 1) := by decide +kernel
theorem dX8_doTextCommand_109 : decode cX8_doTextCommand 109 = .ok (.getfield 19, 3) := by decide +kernel
theorem dX8_doTextCommand_112 : decode cX8_doTextCommand 112 = .ok (.iload_n 2, 1) := by decide +kernel
theorem dX8_doTextCommand_113 : decode cX8_doTextCommand 113 = .ok (.invokevirtual 93, 3) := by decide +kernel
theorem dX8_doTextCommand_116 : decode cX8_doTextCommand 116 = .ok (.ireturn, 1) := by decide +kernel
theorem dX8_doTextCommand_117 : decode cX8_doTextCommand 117 = .ok (.aload_n 0, 1) := by decide +kernel
theorem dX8_doTextCommand_118 : decode cX8_doTextCommand 118 = .ok (.getfield 19, 3) := by decide +kernel
theorem dX8_doTextCommand_121 : decode cX8_doTextCommand 121 = .ok (.iload_n 2, 1) := by decide +kernel
theorem dX8_doTextCommand_122 : decode cX8_doTextCommand 122 = .ok (.iload_n 3, 1) := by decide +kernel
theorem dX8_doTextCommand_123 : decode cX8_doTextCommand 123 = .ok (.invokevirtual 96, 3) := by decide +kernel
theorem dX8_doTextCommand_126 : decode cX8_doTextCommand 126 = .ok (.ireturn, 1) := by decide +kernel
theorem dX8_doTextCommand_127 : decode cX8_doTextCommand 127 = .ok (.aload_n 0, 1) := by decide +kernel
theorem dX8_doTextCommand_128 : decode cX8_doTextCommand 128 = .ok (.getfield 19, 3) := by decide +kernel
theorem dX8_doTextCommand_131 : decode cX8_doTextCommand 131 = .ok (.iload_n 2, 1) := by decide +kernel
theorem dX8_doTextCommand_132 : decode cX8_doTextCommand 132 = .ok (.iload_n 3, 1) := by decide +kernel
theorem dX8_doTextCommand_133 : decode cX8_doTextCommand 133 = .ok (.iload 4, 2) := by decide +kernel
theorem dX8_doTextCommand_135 : decode cX8_doTextCommand 135 = .ok (.invokevirtual 100, 3) := by decide +kernel
theorem dX8_doTextCommand_138 : decode cX8_doTextCommand 138 = .ok (.ireturn, 1) := by decide +kernel
theorem dX8_doTextCommand_139 : decode cX8_doTextCommand 139 = .ok (.aload_n 0, 1) := by decide +kernel
theorem dX8_doTextCommand_140 : decode cX8_doTextCommand 140 = .ok (.getfield 19, 3) := by decide +kernel
theorem dX8_doTextCommand_143 : decode cX8_doTextCommand 143 = .ok (.iload_n 2, 1) := by decide +kernel
theorem dX8_doTextCommand_144 : decode cX8_doTextCommand 144 = .ok (.invokevirtual 103, 3) := by decide +kernel
theorem dX8_doTextCommand_147 : decode cX8_doTextCommand 147 = .ok (.ireturn, 1) := by decide +kernel
theorem dX8_doTextCommand_148 : decode cX8_doTextCommand 148 = .ok (.bipush (-2), 2) := by decide +kernel
theorem dX8_doTextCommand_150 : decode cX8_doTextCommand 150 = .ok (.ireturn, 1) := by decide +kernel
set_option maxRecDepth 20000 in
theorem ggX8_about_X7_usableOnes : GoodIn wsX8_about wsX7_usableOnes := goodIn_r _ [7, 8, 9, 10, 11, 5, 12, 13, 14, 15, 16, 17, 67, 68, 69, 70, 71, 72] (by decide +kernel) (by decide +kernel)
set_option maxRecDepth 20000 in
theorem gX8_about_X7_usableOnes_n118 : GoodIn wsX8_about (wsX7_usableOnes) := ggX8_about_X7_usableOnes
set_option maxRecDepth 20000 in
theorem ggX8_about_X7_onLoan : GoodIn wsX8_about wsX7_onLoan := goodIn_r _ [20, 8, 21, 22, 23, 5, 24, 25, 26, 14, 15, 16, 17, 67, 68, 69, 70, 71, 72] (by decide +kernel) (by decide +kernel)
set_option maxRecDepth 20000 in
theorem gX8_about_X7_onLoan_n121 : GoodIn wsX8_about (wsX7_onLoan) := ggX8_about_X7_onLoan
set_option maxRecDepth 20000 in
theorem ggX8_about_X7_dueBefore : GoodIn wsX8_about wsX7_dueBefore := goodIn_r _ [29, 8, 30, 21, 22, 23, 5, 24, 25, 26, 14, 15, 16, 17, 67, 68, 69, 70, 71, 72] (by decide +kernel) (by decide +kernel)
set_option maxRecDepth 20000 in
theorem gX8_about_X7_dueBefore_n124 : GoodIn wsX8_about (wsX7_dueBefore) := ggX8_about_X7_dueBefore
set_option maxRecDepth 20000 in
theorem ggX8_about_X0_all : GoodIn wsX8_about wsX0_all := goodIn_r _ [34, 35, 73, 74, 75] (by decide +kernel) (by decide +kernel)
set_option maxRecDepth 20000 in
theorem gX8_about_X0_all_n131 : GoodIn wsX8_about (wsX0_all) := ggX8_about_X0_all
set_option maxRecDepth 20000 in
theorem ggX8_about_X1_all : GoodIn wsX8_about wsX1_all := goodIn_r _ [39, 40, 41, 42, 37, 43, 44, 45, 46, 47, 48, 49, 50, 51, 76] (by decide +kernel) (by decide +kernel)
set_option maxRecDepth 20000 in
theorem gX8_about_X1_all_n140 : GoodIn wsX8_about (wsX1_all) := ggX8_about_X1_all
theorem dX8_about_0 : decode cX8_about 0 = .ok (.iload_n 1, 1) := by decide +kernel
theorem dX8_about_1 : decode cX8_about 1 = .ok (.tableswitch 160 0 9 #[55, 63, 74, 85, 96, 114, 125, 136, 144, 152], 55) := by decide +kernel
theorem dX8_about_56 : decode cX8_about 56 = .ok (.aload_n 0, 1) := by decide +kernel
theorem dX8_about_57 : decode cX8_about 57 = .ok (.getfield 19, 3) := by decide +kernel
theorem dX8_about_60 : decode cX8_about 60 = .ok (.getfield 106, 3) := by decide +kernel
theorem dX8_about_63 : decode cX8_about 63 = .ok (.ireturn, 1) := by decide +kernel
theorem dX8_about_64 : decode cX8_about 64 = .ok (.aload_n 0, 1) := by decide +kernel
theorem dX8_about_65 : decode cX8_about 65 = .ok (.getfield 19, 3) := by decide +kernel
theorem dX8_about_68 : decode cX8_about 68 = .ok (.getfield 109, 3) := by decide +kernel
theorem dX8_about_71 : decode cX8_about 71 = .ok (.getfield 113, 3) := by decide +kernel
theorem dX8_about_74 : decode cX8_about 74 = .ok (.ireturn, 1) := by decide +kernel
theorem dX8_about_75 : decode cX8_about 75 = .ok (.aload_n 0, 1) := by decide +kernel
theorem dX8_about_76 : decode cX8_about 76 = .ok (.getfield 19, 3) := by decide +kernel
theorem dX8_about_79 : decode cX8_about 79 = .ok (.getfield 109, 3) := by decide +kernel
theorem dX8_about_82 : decode cX8_about 82 = .ok (.invokevirtual 118, 3) := by decide +kernel
theorem dX8_about_85 : decode cX8_about 85 = .ok (.ireturn, 1) := by decide +kernel
theorem dX8_about_86 : decode cX8_about 86 = .ok (.aload_n 0, 1) := by decide +kernel
theorem dX8_about_87 : decode cX8_about 87 = .ok (.getfield 19, 3) := by decide +kernel
theorem dX8_about_90 : decode cX8_about 90 = .ok (.getfield 109, 3) := by decide +kernel
theorem dX8_about_93 : decode cX8_about 93 = .ok (.invokevirtual 121, 3) := by decide +kernel
theorem dX8_about_96 : decode cX8_about 96 = .ok (.ireturn, 1) := by decide +kernel
theorem dX8_about_97 : decode cX8_about 97 = .ok (.aload_n 0, 1) := by decide +kernel
theorem dX8_about_98 : decode cX8_about 98 = .ok (.getfield 19, 3) := by decide +kernel
theorem dX8_about_101 : decode cX8_about 101 = .ok (.getfield 109, 3) := by decide +kernel
theorem dX8_about_104 : decode cX8_about 104 = .ok (.aload_n 0, 1) := by decide +kernel
theorem dX8_about_105 : decode cX8_about 105 = .ok (.getfield 19, 3) := by decide +kernel
theorem dX8_about_108 : decode cX8_about 108 = .ok (.getfield 106, 3) := by decide +kernel
theorem dX8_about_111 : decode cX8_about 111 = .ok (.invokevirtual 124, 3) := by decide +kernel
theorem dX8_about_114 : decode cX8_about 114 = .ok (.ireturn, 1) := by decide +kernel
theorem dX8_about_115 : decode cX8_about 115 = .ok (.aload_n 0, 1) := by decide +kernel
theorem dX8_about_116 : decode cX8_about 116 = .ok (.getfield 19, 3) := by decide +kernel
theorem dX8_about_119 : decode cX8_about 119 = .ok (.getfield 127, 3) := by decide +kernel
theorem dX8_about_122 : decode cX8_about 122 = .ok (.invokevirtual 131, 3) := by decide +kernel
theorem dX8_about_125 : decode cX8_about 125 = .ok (.ireturn, 1) := by decide +kernel
theorem dX8_about_126 : decode cX8_about 126 = .ok (.aload_n 0, 1) := by decide +kernel
theorem dX8_about_127 : decode cX8_about 127 = .ok (.getfield 19, 3) := by decide +kernel
theorem dX8_about_130 : decode cX8_about 130 = .ok (.getfield 136, 3) := by decide +kernel
theorem dX8_about_133 : decode cX8_about 133 = .ok (.invokevirtual 140, 3) := by decide +kernel
theorem dX8_about_136 : decode cX8_about 136 = .ok (.ireturn, 1) := by decide +kernel
theorem dX8_about_137 : decode cX8_about 137 = .ok (.aload_n 0, 1) := by decide +kernel
theorem dX8_about_138 : decode cX8_about 138 = .ok (.getfield 19, 3) := by decide +kernel
theorem dX8_about_141 : decode cX8_about 141 = .ok (.getfield 143, 3) := by decide +kernel
theorem dX8_about_144 : decode cX8_about 144 = .ok (.ireturn, 1) := by decide +kernel
theorem dX8_about_145 : decode cX8_about 145 = .ok (.aload_n 0, 1) := by decide +kernel
theorem dX8_about_146 : decode cX8_about 146 = .ok (.getfield 19, 3) := by decide +kernel
theorem dX8_about_149 : decode cX8_about 149 = .ok (.getfield 146, 3) := by decide +kernel
theorem dX8_about_152 : decode cX8_about 152 = .ok (.ireturn, 1) := by decide +kernel
theorem dX8_about_153 : decode cX8_about 153 = .ok (.aload_n 0, 1) := by decide +kernel
theorem dX8_about_154 : decode cX8_about 154 = .ok (.getfield 19, 3) := by decide +kernel
theorem dX8_about_157 : decode cX8_about 157 = .ok (.getfield 149, 3) := by decide +kernel
theorem dX8_about_160 : decode cX8_about 160 = .ok (.ireturn, 1) := by decide +kernel
theorem dX8_about_161 : decode cX8_about 161 = .ok (.new 41, 3) := by decide +kernel
theorem dX8_about_164 : decode cX8_about 164 = .ok (.dup, 1) := by decide +kernel
theorem dX8_about_165 : decode cX8_about 165 = .ok (.invokespecial 43, 3) := by decide +kernel
theorem dX8_about_168 : decode cX8_about 168 = .ok (.athrow, 1) := by decide +kernel
set_option maxRecDepth 20000 in
theorem ggX8_unit_X7_has : GoodIn wsX8_unit wsX7_has := goodIn_r _ [9, 10, 47, 48, 49, 50, 51, 52] (by decide +kernel) (by decide +kernel)
set_option maxRecDepth 20000 in
theorem gX8_unit_X7_has_n152 : GoodIn wsX8_unit (wsX7_has) := ggX8_unit_X7_has
set_option maxRecDepth 20000 in
theorem ggX8_unit_X5_feesFor : GoodIn wsX8_unit wsX5_feesFor := goodIn_r _ [14, 15, 16, 6, 7, 8, 9, 10, 17, 18, 19, 20, 21, 22, 23, 24, 25, 12, 26, 27, 28, 29, 30, 31, 38, 39, 40, 41, 42, 43, 44, 45, 46, 47, 48, 49, 50, 51, 52] (by decide +kernel) (by decide +kernel)
set_option maxRecDepth 20000 in
theorem gX8_unit_X5_feesFor_n175 : GoodIn wsX8_unit (wsX5_feesFor) := ggX8_unit_X5_feesFor
theorem dX8_unit_0 : decode cX8_unit 0 = .ok (.aload_n 0, 1) := by decide +kernel
theorem dX8_unit_1 : decode cX8_unit 1 = .ok (.getfield 19, 3) := by decide +kernel
theorem dX8_unit_4 : decode cX8_unit 4 = .ok (.getfield 109, 3) := by decide +kernel
theorem dX8_unit_7 : decode cX8_unit 7 = .ok (.iload_n 1, 1) := by decide +kernel
theorem dX8_unit_8 : decode cX8_unit 8 = .ok (.invokevirtual 152, 3) := by decide +kernel
theorem dX8_unit_11 : decode cX8_unit 11 = .ok (.ifCond .ne 11, 3) := by decide +kernel
theorem dX8_unit_14 : decode cX8_unit 14 = .ok (.new 156, 3) := by decide +kernel
theorem dX8_unit_17 : decode cX8_unit 17 = .ok (.dup, 1) := by decide +kernel
theorem dX8_unit_18 : decode cX8_unit 18 = .ok (.invokespecial 158, 3) := by decide +kernel
theorem dX8_unit_21 : decode cX8_unit 21 = .ok (.athrow, 1) := by decide +kernel
theorem dX8_unit_22 : decode cX8_unit 22 = .ok (.iload_n 2, 1) := by decide +kernel
theorem dX8_unit_23 : decode cX8_unit 23 = .ok (.tableswitch 112 0 5 #[37, 50, 63, 76, 89, 102], 37) := by decide +kernel
theorem dX8_unit_60 : decode cX8_unit 60 = .ok (.aload_n 0, 1) := by decide +kernel
theorem dX8_unit_61 : decode cX8_unit 61 = .ok (.getfield 19, 3) := by decide +kernel
theorem dX8_unit_64 : decode cX8_unit 64 = .ok (.getfield 109, 3) := by decide +kernel
theorem dX8_unit_67 : decode cX8_unit 67 = .ok (.getfield 159, 3) := by decide +kernel
theorem dX8_unit_70 : decode cX8_unit 70 = .ok (.iload_n 1, 1) := by decide +kernel
theorem dX8_unit_71 : decode cX8_unit 71 = .ok (.iaload, 1) := by decide +kernel
theorem dX8_unit_72 : decode cX8_unit 72 = .ok (.ireturn, 1) := by decide +kernel
theorem dX8_unit_73 : decode cX8_unit 73 = .ok (.aload_n 0, 1) := by decide +kernel
theorem dX8_unit_74 : decode cX8_unit 74 = .ok (.getfield 19, 3) := by decide +kernel
theorem dX8_unit_77 : decode cX8_unit 77 = .ok (.getfield 109, 3) := by decide +kernel
theorem dX8_unit_80 : decode cX8_unit 80 = .ok (.getfield 163, 3) := by decide +kernel
theorem dX8_unit_83 : decode cX8_unit 83 = .ok (.iload_n 1, 1) := by decide +kernel
theorem dX8_unit_84 : decode cX8_unit 84 = .ok (.iaload, 1) := by decide +kernel
theorem dX8_unit_85 : decode cX8_unit 85 = .ok (.ireturn, 1) := by decide +kernel
theorem dX8_unit_86 : decode cX8_unit 86 = .ok (.aload_n 0, 1) := by decide +kernel
theorem dX8_unit_87 : decode cX8_unit 87 = .ok (.getfield 19, 3) := by decide +kernel
theorem dX8_unit_90 : decode cX8_unit 90 = .ok (.getfield 109, 3) := by decide +kernel
theorem dX8_unit_93 : decode cX8_unit 93 = .ok (.getfield 166, 3) := by decide +kernel
theorem dX8_unit_96 : decode cX8_unit 96 = .ok (.iload_n 1, 1) := by decide +kernel
theorem dX8_unit_97 : decode cX8_unit 97 = .ok (.iaload, 1) := by decide +kernel
theorem dX8_unit_98 : decode cX8_unit 98 = .ok (.ireturn, 1) := by decide +kernel
theorem dX8_unit_99 : decode cX8_unit 99 = .ok (.aload_n 0, 1) := by decide +kernel
theorem dX8_unit_100 : decode cX8_unit 100 = .ok (.getfield 19, 3) := by decide +kernel
theorem dX8_unit_103 : decode cX8_unit 103 = .ok (.getfield 109, 3) := by decide +kernel
theorem dX8_unit_106 : decode cX8_unit 106 = .ok (.getfield 169, 3) := by decide +kernel
theorem dX8_unit_109 : decode cX8_unit 109 = .ok (.iload_n 1, 1) := by decide +kernel
theorem dX8_unit_110 : decode cX8_unit 110 = .ok (.iaload, 1) := by decide +kernel
theorem dX8_unit_111 : decode cX8_unit 111 = .ok (.ireturn, 1) := by decide +kernel
theorem dX8_unit_112 : decode cX8_unit 112 = .ok (.aload_n 0, 1) := by decide +kernel
theorem dX8_unit_113 : decode cX8_unit 113 = .ok (.getfield 19, 3) := by decide +kernel
theorem dX8_unit_116 : decode cX8_unit 116 = .ok (.getfield 109, 3) := by decide +kernel
theorem dX8_unit_119 : decode cX8_unit 119 = .ok (.getfield 172, 3) := by decide +kernel
theorem dX8_unit_122 : decode cX8_unit 122 = .ok (.iload_n 1, 1) := by decide +kernel
theorem dX8_unit_123 : decode cX8_unit 123 = .ok (.iaload, 1) := by decide +kernel
theorem dX8_unit_124 : decode cX8_unit 124 = .ok (.ireturn, 1) := by decide +kernel
theorem dX8_unit_125 : decode cX8_unit 125 = .ok (.aload_n 0, 1) := by decide +kernel
theorem dX8_unit_126 : decode cX8_unit 126 = .ok (.getfield 19, 3) := by decide +kernel
theorem dX8_unit_129 : decode cX8_unit 129 = .ok (.iload_n 1, 1) := by decide +kernel
theorem dX8_unit_130 : decode cX8_unit 130 = .ok (.iconst 0, 1) := by decide +kernel
theorem dX8_unit_131 : decode cX8_unit 131 = .ok (.invokevirtual 175, 3) := by decide +kernel
theorem dX8_unit_134 : decode cX8_unit 134 = .ok (.ireturn, 1) := by decide +kernel
theorem dX8_unit_135 : decode cX8_unit 135 = .ok (.new 41, 3) := by decide +kernel
theorem dX8_unit_138 : decode cX8_unit 138 = .ok (.dup, 1) := by decide +kernel
theorem dX8_unit_139 : decode cX8_unit 139 = .ok (.invokespecial 43, 3) := by decide +kernel
theorem dX8_unit_142 : decode cX8_unit 142 = .ok (.athrow, 1) := by decide +kernel
set_option maxRecDepth 20000 in
theorem ggX8_holder_X8_isHolder : GoodIn wsX8_holder wsX8_isHolder := goodIn_r _ [9] (by decide +kernel) (by decide +kernel)
set_option maxRecDepth 20000 in
theorem gX8_holder_X8_isHolder : GoodIn wsX8_holder (va_wsS RX8 178 yX8_isHolder wsX8_isHolder) := goodIn_app (goodIn_of _ (by decide +kernel)) ggX8_holder_X8_isHolder
set_option maxRecDepth 20000 in
theorem ggX8_holder_X7_ownedBy : GoodIn wsX8_holder wsX7_ownedBy := goodIn_r _ [13, 14, 15, 53, 54, 55, 56, 57, 58] (by decide +kernel) (by decide +kernel)
set_option maxRecDepth 20000 in
theorem gX8_holder_X7_ownedBy_n184 : GoodIn wsX8_holder (wsX7_ownedBy) := ggX8_holder_X7_ownedBy
set_option maxRecDepth 20000 in
theorem ggX8_holder_X7_placedAt : GoodIn wsX8_holder wsX7_placedAt := goodIn_r _ [18, 14, 19, 53, 54, 55, 56, 57, 58] (by decide +kernel) (by decide +kernel)
set_option maxRecDepth 20000 in
theorem gX8_holder_X7_placedAt_n187 : GoodIn wsX8_holder (wsX7_placedAt) := ggX8_holder_X7_placedAt
set_option maxRecDepth 20000 in
theorem ggX8_holder_X7_borrowedBy : GoodIn wsX8_holder wsX7_borrowedBy := goodIn_r _ [22, 14, 19, 15, 53, 54, 55, 56, 57, 58] (by decide +kernel) (by decide +kernel)
set_option maxRecDepth 20000 in
theorem gX8_holder_X7_borrowedBy_n190 : GoodIn wsX8_holder (wsX7_borrowedBy) := ggX8_holder_X7_borrowedBy
set_option maxRecDepth 20000 in
theorem ggX8_holder_X1_owedBy : GoodIn wsX8_holder wsX1_owedBy := goodIn_r _ [26, 27, 28, 29, 24, 30, 31, 7, 8, 9, 59] (by decide +kernel) (by decide +kernel)
set_option maxRecDepth 20000 in
theorem gX8_holder_X1_owedBy_n195 : GoodIn wsX8_holder (wsX1_owedBy) := ggX8_holder_X1_owedBy
set_option maxRecDepth 20000 in
theorem ggX8_holder_X1_owedTo : GoodIn wsX8_holder wsX1_owedTo := goodIn_r _ [34, 27, 28, 29, 24, 30, 31, 7, 8, 9, 59] (by decide +kernel) (by decide +kernel)
set_option maxRecDepth 20000 in
theorem gX8_holder_X1_owedTo_n198 : GoodIn wsX8_holder (wsX1_owedTo) := ggX8_holder_X1_owedTo
theorem dX8_holder_0 : decode cX8_holder 0 = .ok (.iload_n 1, 1) := by decide +kernel
theorem dX8_holder_1 : decode cX8_holder 1 = .ok (.invokestatic 178, 3) := by decide +kernel
theorem dX8_holder_4 : decode cX8_holder 4 = .ok (.ifCond .ne 11, 3) := by decide +kernel
theorem dX8_holder_7 : decode cX8_holder 7 = .ok (.new 156, 3) := by decide +kernel
theorem dX8_holder_10 : decode cX8_holder 10 = .ok (.dup, 1) := by decide +kernel
theorem dX8_holder_11 : decode cX8_holder 11 = .ok (.invokespecial 158, 3) := by decide +kernel
theorem dX8_holder_14 : decode cX8_holder 14 = .ok (.athrow, 1) := by decide +kernel
theorem dX8_holder_15 : decode cX8_holder 15 = .ok (.iload_n 2, 1) := by decide +kernel
theorem dX8_holder_16 : decode cX8_holder 16 = .ok (.tableswitch 127 0 6 #[44, 54, 66, 78, 90, 103, 115], 44) := by decide +kernel
theorem dX8_holder_60 : decode cX8_holder 60 = .ok (.aload_n 0, 1) := by decide +kernel
theorem dX8_holder_61 : decode cX8_holder 61 = .ok (.getfield 19, 3) := by decide +kernel
theorem dX8_holder_64 : decode cX8_holder 64 = .ok (.getfield 181, 3) := by decide +kernel
theorem dX8_holder_67 : decode cX8_holder 67 = .ok (.iload_n 1, 1) := by decide +kernel
theorem dX8_holder_68 : decode cX8_holder 68 = .ok (.iaload, 1) := by decide +kernel
theorem dX8_holder_69 : decode cX8_holder 69 = .ok (.ireturn, 1) := by decide +kernel
theorem dX8_holder_70 : decode cX8_holder 70 = .ok (.aload_n 0, 1) := by decide +kernel
theorem dX8_holder_71 : decode cX8_holder 71 = .ok (.getfield 19, 3) := by decide +kernel
theorem dX8_holder_74 : decode cX8_holder 74 = .ok (.getfield 109, 3) := by decide +kernel
theorem dX8_holder_77 : decode cX8_holder 77 = .ok (.iload_n 1, 1) := by decide +kernel
theorem dX8_holder_78 : decode cX8_holder 78 = .ok (.invokevirtual 184, 3) := by decide +kernel
theorem dX8_holder_81 : decode cX8_holder 81 = .ok (.ireturn, 1) := by decide +kernel
theorem dX8_holder_82 : decode cX8_holder 82 = .ok (.aload_n 0, 1) := by decide +kernel
theorem dX8_holder_83 : decode cX8_holder 83 = .ok (.getfield 19, 3) := by decide +kernel
theorem dX8_holder_86 : decode cX8_holder 86 = .ok (.getfield 109, 3) := by decide +kernel
theorem dX8_holder_89 : decode cX8_holder 89 = .ok (.iload_n 1, 1) := by decide +kernel
theorem dX8_holder_90 : decode cX8_holder 90 = .ok (.invokevirtual 187, 3) := by decide +kernel
theorem dX8_holder_93 : decode cX8_holder 93 = .ok (.ireturn, 1) := by decide +kernel
theorem dX8_holder_94 : decode cX8_holder 94 = .ok (.aload_n 0, 1) := by decide +kernel
theorem dX8_holder_95 : decode cX8_holder 95 = .ok (.getfield 19, 3) := by decide +kernel
theorem dX8_holder_98 : decode cX8_holder 98 = .ok (.getfield 109, 3) := by decide +kernel
theorem dX8_holder_101 : decode cX8_holder 101 = .ok (.iload_n 1, 1) := by decide +kernel
theorem dX8_holder_102 : decode cX8_holder 102 = .ok (.invokevirtual 190, 3) := by decide +kernel
theorem dX8_holder_105 : decode cX8_holder 105 = .ok (.ireturn, 1) := by decide +kernel
theorem dX8_holder_106 : decode cX8_holder 106 = .ok (.aload_n 0, 1) := by decide +kernel
theorem dX8_holder_107 : decode cX8_holder 107 = .ok (.getfield 19, 3) := by decide +kernel
theorem dX8_holder_110 : decode cX8_holder 110 = .ok (.getfield 127, 3) := by decide +kernel
theorem dX8_holder_113 : decode cX8_holder 113 = .ok (.getfield 193, 3) := by decide +kernel
theorem dX8_holder_116 : decode cX8_holder 116 = .ok (.iload_n 1, 1) := by decide +kernel
theorem dX8_holder_117 : decode cX8_holder 117 = .ok (.iaload, 1) := by decide +kernel
theorem dX8_holder_118 : decode cX8_holder 118 = .ok (.ireturn, 1) := by decide +kernel
theorem dX8_holder_119 : decode cX8_holder 119 = .ok (.aload_n 0, 1) := by decide +kernel
theorem dX8_holder_120 : decode cX8_holder 120 = .ok (.getfield 19, 3) := by decide +kernel
theorem dX8_holder_123 : decode cX8_holder 123 = .ok (.getfield 136, 3) := by decide +kernel
theorem dX8_holder_126 : decode cX8_holder 126 = .ok (.iload_n 1, 1) := by decide +kernel
theorem dX8_holder_127 : decode cX8_holder 127 = .ok (.invokevirtual 195, 3) := by decide +kernel
theorem dX8_holder_130 : decode cX8_holder 130 = .ok (.ireturn, 1) := by decide +kernel
theorem dX8_holder_131 : decode cX8_holder 131 = .ok (.aload_n 0, 1) := by decide +kernel
theorem dX8_holder_132 : decode cX8_holder 132 = .ok (.getfield 19, 3) := by decide +kernel
theorem dX8_holder_135 : decode cX8_holder 135 = .ok (.getfield 136, 3) := by decide +kernel
theorem dX8_holder_138 : decode cX8_holder 138 = .ok (.iload_n 1, 1) := by decide +kernel
theorem dX8_holder_139 : decode cX8_holder 139 = .ok (.invokevirtual 198, 3) := by decide +kernel
theorem dX8_holder_142 : decode cX8_holder 142 = .ok (.ireturn, 1) := by decide +kernel
theorem dX8_holder_143 : decode cX8_holder 143 = .ok (.new 41, 3) := by decide +kernel
theorem dX8_holder_146 : decode cX8_holder 146 = .ok (.dup, 1) := by decide +kernel
theorem dX8_holder_147 : decode cX8_holder 147 = .ok (.invokespecial 43, 3) := by decide +kernel
theorem dX8_holder_150 : decode cX8_holder 150 = .ok (.athrow, 1) := by decide +kernel
set_option maxRecDepth 20000 in
theorem ggX8_owed_X8_isHolder : GoodIn wsX8_owed wsX8_isHolder := goodIn_r _ [7] (by decide +kernel) (by decide +kernel)
set_option maxRecDepth 20000 in
theorem gX8_owed_X8_isHolder : GoodIn wsX8_owed (va_wsS RX8 178 yX8_isHolder wsX8_isHolder) := goodIn_app (goodIn_of _ (by decide +kernel)) ggX8_owed_X8_isHolder
set_option maxRecDepth 20000 in
theorem ggX8_owed_X8_isKind : GoodIn wsX8_owed wsX8_isKind := goodIn_r _ [10] (by decide +kernel) (by decide +kernel)
set_option maxRecDepth 20000 in
theorem gX8_owed_X8_isKind : GoodIn wsX8_owed (va_wsS RX8 201 yX8_isKind wsX8_isKind) := goodIn_app (goodIn_of _ (by decide +kernel)) ggX8_owed_X8_isKind
set_option maxRecDepth 20000 in
theorem ggX8_owed_X8_isPart : GoodIn wsX8_owed wsX8_isPart := goodIn_r _ [13] (by decide +kernel) (by decide +kernel)
set_option maxRecDepth 20000 in
theorem gX8_owed_X8_isPart : GoodIn wsX8_owed (va_wsS RX8 204 yX8_isPart wsX8_isPart) := goodIn_app (goodIn_of _ (by decide +kernel)) ggX8_owed_X8_isPart
set_option maxRecDepth 20000 in
theorem ggX8_owed_X1_between : GoodIn wsX8_owed wsX1_between := goodIn_r _ [17, 18, 19, 20, 15, 21, 5, 6, 7, 9, 10, 12, 13, 37] (by decide +kernel) (by decide +kernel)
set_option maxRecDepth 20000 in
theorem gX8_owed_X1_between_n207 : GoodIn wsX8_owed (wsX1_between) := ggX8_owed_X1_between
theorem dX8_owed_0 : decode cX8_owed 0 = .ok (.iload_n 1, 1) := by decide +kernel
theorem dX8_owed_1 : decode cX8_owed 1 = .ok (.invokestatic 178, 3) := by decide +kernel
theorem dX8_owed_4 : decode cX8_owed 4 = .ok (.ifCond .eq 25, 3) := by decide +kernel
theorem dX8_owed_7 : decode cX8_owed 7 = .ok (.iload_n 2, 1) := by decide +kernel
theorem dX8_owed_8 : decode cX8_owed 8 = .ok (.invokestatic 178, 3) := by decide +kernel
theorem dX8_owed_11 : decode cX8_owed 11 = .ok (.ifCond .eq 18, 3) := by decide +kernel
theorem dX8_owed_14 : decode cX8_owed 14 = .ok (.iload_n 3, 1) := by decide +kernel
theorem dX8_owed_15 : decode cX8_owed 15 = .ok (.invokestatic 201, 3) := by decide +kernel
theorem dX8_owed_18 : decode cX8_owed 18 = .ok (.ifCond .eq 11, 3) := by decide +kernel
theorem dX8_owed_21 : decode cX8_owed 21 = .ok (.iload 4, 2) := by decide +kernel
theorem dX8_owed_23 : decode cX8_owed 23 = .ok (.invokestatic 204, 3) := by decide +kernel
theorem dX8_owed_26 : decode cX8_owed 26 = .ok (.ifCond .ne 11, 3) := by decide +kernel
theorem dX8_owed_29 : decode cX8_owed 29 = .ok (.new 156, 3) := by decide +kernel
theorem dX8_owed_32 : decode cX8_owed 32 = .ok (.dup, 1) := by decide +kernel
theorem dX8_owed_33 : decode cX8_owed 33 = .ok (.invokespecial 158, 3) := by decide +kernel
theorem dX8_owed_36 : decode cX8_owed 36 = .ok (.athrow, 1) := by decide +kernel
theorem dX8_owed_37 : decode cX8_owed 37 = .ok (.aload_n 0, 1) := by decide +kernel
theorem dX8_owed_38 : decode cX8_owed 38 = .ok (.getfield 19, 3) := by decide +kernel
theorem dX8_owed_41 : decode cX8_owed 41 = .ok (.getfield 136, 3) := by decide +kernel
theorem dX8_owed_44 : decode cX8_owed 44 = .ok (.iload_n 1, 1) := by decide +kernel
theorem dX8_owed_45 : decode cX8_owed 45 = .ok (.iload_n 2, 1) := by decide +kernel
theorem dX8_owed_46 : decode cX8_owed 46 = .ok (.iload_n 3, 1) := by decide +kernel
theorem dX8_owed_47 : decode cX8_owed 47 = .ok (.iload 4, 2) := by decide +kernel
theorem dX8_owed_49 : decode cX8_owed 49 = .ok (.invokevirtual 207, 3) := by decide +kernel
theorem dX8_owed_52 : decode cX8_owed 52 = .ok (.ireturn, 1) := by decide +kernel
set_option maxRecDepth 20000 in
theorem ggX8_core_X8_isHolder : GoodIn wsX8_core wsX8_isHolder := goodIn_r _ [9] (by decide +kernel) (by decide +kernel)
set_option maxRecDepth 20000 in
theorem gX8_core_X8_isHolder : GoodIn wsX8_core (va_wsS RX8 178 yX8_isHolder wsX8_isHolder) := goodIn_app (goodIn_of _ (by decide +kernel)) ggX8_core_X8_isHolder
set_option maxRecDepth 20000 in
theorem ggX8_core_X0_kindOf : GoodIn wsX8_core wsX0_kindOf := goodIn_r _ [13, 14, 15, 16, 17, 11, 18, 19, 7, 8, 9, 39, 40, 41] (by decide +kernel) (by decide +kernel)
set_option maxRecDepth 20000 in
theorem gX8_core_X0_kindOf_n211 : GoodIn wsX8_core (wsX0_kindOf) := ggX8_core_X0_kindOf
set_option maxRecDepth 20000 in
theorem ggX8_core_X0_dueOf : GoodIn wsX8_core wsX0_dueOf := goodIn_r _ [22, 23, 15, 16, 17, 11, 18, 19, 7, 8, 9, 39, 40, 41] (by decide +kernel) (by decide +kernel)
set_option maxRecDepth 20000 in
theorem gX8_core_X0_dueOf_n214 : GoodIn wsX8_core (wsX0_dueOf) := ggX8_core_X0_dueOf
theorem dX8_core_0 : decode cX8_core 0 = .ok (.iload_n 1, 1) := by decide +kernel
theorem dX8_core_1 : decode cX8_core 1 = .ok (.invokestatic 178, 3) := by decide +kernel
theorem dX8_core_4 : decode cX8_core 4 = .ok (.ifCond .ne 11, 3) := by decide +kernel
theorem dX8_core_7 : decode cX8_core 7 = .ok (.new 156, 3) := by decide +kernel
theorem dX8_core_10 : decode cX8_core 10 = .ok (.dup, 1) := by decide +kernel
theorem dX8_core_11 : decode cX8_core 11 = .ok (.invokespecial 158, 3) := by decide +kernel
theorem dX8_core_14 : decode cX8_core 14 = .ok (.athrow, 1) := by decide +kernel
theorem dX8_core_15 : decode cX8_core 15 = .ok (.iload_n 2, 1) := by decide +kernel
theorem dX8_core_16 : decode cX8_core 16 = .ok (.ifCond .lt 12, 3) := by decide +kernel
theorem dX8_core_19 : decode cX8_core 19 = .ok (.iload_n 3, 1) := by decide +kernel
theorem dX8_core_20 : decode cX8_core 20 = .ok (.ifCond .lt 8, 3) := by decide +kernel
theorem dX8_core_23 : decode cX8_core 23 = .ok (.iload_n 3, 1) := by decide +kernel
theorem dX8_core_24 : decode cX8_core 24 = .ok (.iconst 1, 1) := by decide +kernel
theorem dX8_core_25 : decode cX8_core 25 = .ok (.if_icmp .le 11, 3) := by decide +kernel
theorem dX8_core_28 : decode cX8_core 28 = .ok (.new 41, 3) := by decide +kernel
theorem dX8_core_31 : decode cX8_core 31 = .ok (.dup, 1) := by decide +kernel
theorem dX8_core_32 : decode cX8_core 32 = .ok (.invokespecial 43, 3) := by decide +kernel
theorem dX8_core_35 : decode cX8_core 35 = .ok (.athrow, 1) := by decide +kernel
theorem dX8_core_36 : decode cX8_core 36 = .ok (.iload_n 3, 1) := by decide +kernel
theorem dX8_core_37 : decode cX8_core 37 = .ok (.ifCond .ne 18, 3) := by decide +kernel
theorem dX8_core_40 : decode cX8_core 40 = .ok (.aload_n 0, 1) := by decide +kernel
theorem dX8_core_41 : decode cX8_core 41 = .ok (.getfield 19, 3) := by decide +kernel
theorem dX8_core_44 : decode cX8_core 44 = .ok (.getfield 127, 3) := by decide +kernel
theorem dX8_core_47 : decode cX8_core 47 = .ok (.iload_n 1, 1) := by decide +kernel
theorem dX8_core_48 : decode cX8_core 48 = .ok (.iload_n 2, 1) := by decide +kernel
theorem dX8_core_49 : decode cX8_core 49 = .ok (.invokevirtual 211, 3) := by decide +kernel
theorem dX8_core_52 : decode cX8_core 52 = .ok (.goto 15, 3) := by decide +kernel
theorem dX8_core_55 : decode cX8_core 55 = .ok (.aload_n 0, 1) := by decide +kernel
theorem dX8_core_56 : decode cX8_core 56 = .ok (.getfield 19, 3) := by decide +kernel
theorem dX8_core_59 : decode cX8_core 59 = .ok (.getfield 127, 3) := by decide +kernel
theorem dX8_core_62 : decode cX8_core 62 = .ok (.iload_n 1, 1) := by decide +kernel
theorem dX8_core_63 : decode cX8_core 63 = .ok (.iload_n 2, 1) := by decide +kernel
theorem dX8_core_64 : decode cX8_core 64 = .ok (.invokevirtual 214, 3) := by decide +kernel
theorem dX8_core_67 : decode cX8_core 67 = .ok (.ireturn, 1) := by decide +kernel
set_option maxRecDepth 20000 in
theorem ggX8_setting_X8_isSetting : GoodIn wsX8_setting wsX8_isSetting := goodIn_r _ [7] (by decide +kernel) (by decide +kernel)
set_option maxRecDepth 20000 in
theorem gX8_setting_X8_isSetting : GoodIn wsX8_setting (va_wsS RX8 217 yX8_isSetting wsX8_isSetting) := goodIn_app (goodIn_of _ (by decide +kernel)) ggX8_setting_X8_isSetting
theorem dX8_setting_0 : decode cX8_setting 0 = .ok (.iload_n 1, 1) := by decide +kernel
theorem dX8_setting_1 : decode cX8_setting 1 = .ok (.invokestatic 217, 3) := by decide +kernel
theorem dX8_setting_4 : decode cX8_setting 4 = .ok (.ifCond .ne 11, 3) := by decide +kernel
theorem dX8_setting_7 : decode cX8_setting 7 = .ok (.new 41, 3) := by decide +kernel
theorem dX8_setting_10 : decode cX8_setting 10 = .ok (.dup, 1) := by decide +kernel
theorem dX8_setting_11 : decode cX8_setting 11 = .ok (.invokespecial 43, 3) := by decide +kernel
theorem dX8_setting_14 : decode cX8_setting 14 = .ok (.athrow, 1) := by decide +kernel
theorem dX8_setting_15 : decode cX8_setting 15 = .ok (.aload_n 0, 1) := by decide +kernel
theorem dX8_setting_16 : decode cX8_setting 16 = .ok (.getfield 19, 3) := by decide +kernel
theorem dX8_setting_19 : decode cX8_setting 19 = .ok (.getfield 220, 3) := by decide +kernel
theorem dX8_setting_22 : decode cX8_setting 22 = .ok (.iload_n 1, 1) := by decide +kernel
theorem dX8_setting_23 : decode cX8_setting 23 = .ok (.iaload, 1) := by decide +kernel
theorem dX8_setting_24 : decode cX8_setting 24 = .ok (.ireturn, 1) := by decide +kernel
set_option maxRecDepth 20000 in
theorem ggX8_come_X2_prepare : GoodIn wsX8_come wsX2_prepare := goodIn_r _ [6, 7, 8, 9, 10, 11, 12, 13, 14, 15, 16, 17, 18, 19, 20, 21, 22, 23, 24, 25, 26, 27, 28, 29, 30, 31, 32, 33, 34, 35, 36, 37, 38, 39, 40, 41, 42, 43, 44, 45, 46, 47, 48, 49, 50, 51, 90, 91, 92, 93, 94, 95, 96, 97, 98, 99, 100, 101, 102, 103, 104, 105, 106, 107, 108, 109, 110, 111] (by decide +kernel) (by decide +kernel)
set_option maxRecDepth 20000 in
theorem gX8_come_X2_prepare_n223 : GoodIn wsX8_come (wsX2_prepare) := ggX8_come_X2_prepare
set_option maxRecDepth 20000 in
theorem ggX8_come_X5_tryCome : GoodIn wsX8_come wsX5_tryCome := goodIn_r _ [54, 14, 55, 56, 57, 58, 59, 60, 28, 61, 62, 37, 31, 35, 63, 64, 65, 66, 33, 34, 36, 67, 68, 69, 70, 93, 94, 95, 96, 97, 98, 99, 100, 101, 102, 103, 104, 105, 106, 107] (by decide +kernel) (by decide +kernel)
set_option maxRecDepth 20000 in
theorem gX8_come_X5_tryCome_n86 : GoodIn wsX8_come (wsX5_tryCome) := ggX8_come_X5_tryCome
set_option maxRecDepth 20000 in
theorem ggX8_come_X8_finishAction : GoodIn wsX8_come wsX8_finishAction := goodIn_ca (goodIn_ca (goodIn_ca (goodIn_r _ [74, 75, 76, 77, 78, 79, 80, 1, 81, 4, 82, 83, 9, 8, 84, 85, 86, 87, 88, 89, 90, 91, 92] (by decide +kernel) (by decide +kernel)) (goodIn_sub (fun _ h => List.mem_cons_of_mem _ (List.mem_append_left _ (List.mem_append_left _ (List.mem_append_right _ h)))) (by decide +kernel))) (goodIn_sub (fun _ h => List.mem_cons_of_mem _ (List.mem_append_left _ (List.mem_append_right _ h))) (by decide +kernel))) (goodIn_sub (fun _ h => List.mem_cons_of_mem _ (List.mem_append_right _ h)) (by decide +kernel))
set_option maxRecDepth 20000 in
theorem gX8_come_X8_finishAction : GoodIn wsX8_come (wsV RX8 227 RX8 yX8_finishAction wsX8_finishAction) := goodIn_app (goodIn_of _ (by decide +kernel)) ggX8_come_X8_finishAction
theorem dX8_come_0 : decode cX8_come 0 = .ok (.aload_n 0, 1) := by decide +kernel
theorem dX8_come_1 : decode cX8_come 1 = .ok (.getfield 29, 3) := by decide +kernel
theorem dX8_come_4 : decode cX8_come 4 = .ok (.aload_n 0, 1) := by decide +kernel
theorem dX8_come_5 : decode cX8_come 5 = .ok (.getfield 19, 3) := by decide +kernel
theorem dX8_come_8 : decode cX8_come 8 = .ok (.invokevirtual 223, 3) := by decide +kernel
theorem dX8_come_11 : decode cX8_come 11 = .ok (.aload_n 0, 1) := by decide +kernel
theorem dX8_come_12 : decode cX8_come 12 = .ok (.aload_n 0, 1) := by decide +kernel
theorem dX8_come_13 : decode cX8_come 13 = .ok (.getfield 19, 3) := by decide +kernel
theorem dX8_come_16 : decode cX8_come 16 = .ok (.iload_n 1, 1) := by decide +kernel
theorem dX8_come_17 : decode cX8_come 17 = .ok (.iload_n 2, 1) := by decide +kernel
theorem dX8_come_18 : decode cX8_come 18 = .ok (.iload_n 3, 1) := by decide +kernel
theorem dX8_come_19 : decode cX8_come 19 = .ok (.invokevirtual 86, 3) := by decide +kernel
theorem dX8_come_22 : decode cX8_come 22 = .ok (.invokevirtual 227, 3) := by decide +kernel
theorem dX8_come_25 : decode cX8_come 25 = .ok (.ireturn, 1) := by decide +kernel
set_option maxRecDepth 20000 in
theorem ggX8_lend_X2_prepare : GoodIn wsX8_lend wsX2_prepare := goodIn_r _ [6, 7, 8, 9, 10, 11, 12, 13, 14, 15, 16, 17, 18, 19, 20, 21, 22, 23, 24, 25, 26, 27, 28, 29, 30, 31, 32, 33, 34, 35, 36, 37, 38, 39, 40, 41, 42, 43, 44, 45, 46, 47, 48, 49, 50, 51, 86, 87, 88, 89, 90, 91, 92, 93, 94, 95, 96, 97, 98, 99, 100, 101, 102, 103, 104, 105, 106, 107] (by decide +kernel) (by decide +kernel)
set_option maxRecDepth 20000 in
theorem gX8_lend_X2_prepare_n223 : GoodIn wsX8_lend (wsX2_prepare) := ggX8_lend_X2_prepare
set_option maxRecDepth 20000 in
theorem ggX8_lend_X5_tryLend : GoodIn wsX8_lend wsX5_tryLend := goodIn_r _ [54, 14, 23, 55, 28, 56, 57, 37, 58, 59, 60, 61, 62, 63, 64, 65, 34, 33, 66, 89, 90, 91, 92, 93, 94, 95, 96, 97, 98, 99, 100, 101, 102, 103] (by decide +kernel) (by decide +kernel)
set_option maxRecDepth 20000 in
theorem gX8_lend_X5_tryLend_n90 : GoodIn wsX8_lend (wsX5_tryLend) := ggX8_lend_X5_tryLend
set_option maxRecDepth 20000 in
theorem ggX8_lend_X8_finishAction : GoodIn wsX8_lend wsX8_finishAction := goodIn_ca (goodIn_ca (goodIn_ca (goodIn_r _ [70, 71, 72, 73, 74, 75, 76, 1, 77, 4, 78, 79, 9, 8, 80, 81, 82, 83, 84, 85, 86, 87, 88] (by decide +kernel) (by decide +kernel)) (goodIn_sub (fun _ h => List.mem_cons_of_mem _ (List.mem_append_left _ (List.mem_append_left _ (List.mem_append_right _ h)))) (by decide +kernel))) (goodIn_sub (fun _ h => List.mem_cons_of_mem _ (List.mem_append_left _ (List.mem_append_right _ h))) (by decide +kernel))) (goodIn_sub (fun _ h => List.mem_cons_of_mem _ (List.mem_append_right _ h)) (by decide +kernel))
set_option maxRecDepth 20000 in
theorem gX8_lend_X8_finishAction : GoodIn wsX8_lend (wsV RX8 227 RX8 yX8_finishAction wsX8_finishAction) := goodIn_app (goodIn_of _ (by decide +kernel)) ggX8_lend_X8_finishAction
theorem dX8_lend_0 : decode cX8_lend 0 = .ok (.aload_n 0, 1) := by decide +kernel
theorem dX8_lend_1 : decode cX8_lend 1 = .ok (.getfield 29, 3) := by decide +kernel
theorem dX8_lend_4 : decode cX8_lend 4 = .ok (.aload_n 0, 1) := by decide +kernel
theorem dX8_lend_5 : decode cX8_lend 5 = .ok (.getfield 19, 3) := by decide +kernel
theorem dX8_lend_8 : decode cX8_lend 8 = .ok (.invokevirtual 223, 3) := by decide +kernel
theorem dX8_lend_11 : decode cX8_lend 11 = .ok (.aload_n 0, 1) := by decide +kernel
theorem dX8_lend_12 : decode cX8_lend 12 = .ok (.aload_n 0, 1) := by decide +kernel
theorem dX8_lend_13 : decode cX8_lend 13 = .ok (.getfield 19, 3) := by decide +kernel
theorem dX8_lend_16 : decode cX8_lend 16 = .ok (.iload_n 1, 1) := by decide +kernel
theorem dX8_lend_17 : decode cX8_lend 17 = .ok (.iload_n 2, 1) := by decide +kernel
theorem dX8_lend_18 : decode cX8_lend 18 = .ok (.iload_n 3, 1) := by decide +kernel
theorem dX8_lend_19 : decode cX8_lend 19 = .ok (.invokevirtual 90, 3) := by decide +kernel
theorem dX8_lend_22 : decode cX8_lend 22 = .ok (.invokevirtual 227, 3) := by decide +kernel
theorem dX8_lend_25 : decode cX8_lend 25 = .ok (.ireturn, 1) := by decide +kernel
set_option maxRecDepth 20000 in
theorem ggX8_bring_X2_prepare : GoodIn wsX8_bring wsX2_prepare := goodIn_r _ [6, 7, 8, 9, 10, 11, 12, 13, 14, 15, 16, 17, 18, 19, 20, 21, 22, 23, 24, 25, 26, 27, 28, 29, 30, 31, 32, 33, 34, 35, 36, 37, 38, 39, 40, 41, 42, 43, 44, 45, 46, 47, 48, 49, 50, 51, 103, 104, 105, 106, 107, 108, 109, 110, 111, 112, 113, 114, 115, 116, 117, 118, 119, 120, 121, 122, 123, 124] (by decide +kernel) (by decide +kernel)
set_option maxRecDepth 20000 in
theorem gX8_bring_X2_prepare_n223 : GoodIn wsX8_bring (wsX2_prepare) := ggX8_bring_X2_prepare
set_option maxRecDepth 20000 in
theorem ggX8_bring_X5_tryBring : GoodIn wsX8_bring wsX5_tryBring := goodIn_r _ [54, 14, 55, 28, 56, 57, 37, 58, 59, 60, 34, 33, 61, 62, 63, 64, 11, 65, 23, 66, 67, 68, 69, 22, 70, 71, 72, 73, 74, 75, 76, 77, 17, 26, 78, 79, 80, 81, 82, 83, 36, 106, 107, 108, 109, 110, 111, 112, 113, 114, 115, 116, 117, 118, 119, 120] (by decide +kernel) (by decide +kernel)
set_option maxRecDepth 20000 in
theorem gX8_bring_X5_tryBring_n93 : GoodIn wsX8_bring (wsX5_tryBring) := ggX8_bring_X5_tryBring
set_option maxRecDepth 20000 in
theorem ggX8_bring_X8_finishAction : GoodIn wsX8_bring wsX8_finishAction := goodIn_ca (goodIn_ca (goodIn_ca (goodIn_r _ [87, 88, 89, 90, 91, 92, 93, 1, 94, 4, 95, 96, 9, 8, 97, 98, 99, 100, 101, 102, 103, 104, 105] (by decide +kernel) (by decide +kernel)) (goodIn_sub (fun _ h => List.mem_cons_of_mem _ (List.mem_append_left _ (List.mem_append_left _ (List.mem_append_right _ h)))) (by decide +kernel))) (goodIn_sub (fun _ h => List.mem_cons_of_mem _ (List.mem_append_left _ (List.mem_append_right _ h))) (by decide +kernel))) (goodIn_sub (fun _ h => List.mem_cons_of_mem _ (List.mem_append_right _ h)) (by decide +kernel))
set_option maxRecDepth 20000 in
theorem gX8_bring_X8_finishAction : GoodIn wsX8_bring (wsV RX8 227 RX8 yX8_finishAction wsX8_finishAction) := goodIn_app (goodIn_of _ (by decide +kernel)) ggX8_bring_X8_finishAction
theorem dX8_bring_0 : decode cX8_bring 0 = .ok (.aload_n 0, 1) := by decide +kernel
theorem dX8_bring_1 : decode cX8_bring 1 = .ok (.getfield 29, 3) := by decide +kernel
theorem dX8_bring_4 : decode cX8_bring 4 = .ok (.aload_n 0, 1) := by decide +kernel
theorem dX8_bring_5 : decode cX8_bring 5 = .ok (.getfield 19, 3) := by decide +kernel
theorem dX8_bring_8 : decode cX8_bring 8 = .ok (.invokevirtual 223, 3) := by decide +kernel
theorem dX8_bring_11 : decode cX8_bring 11 = .ok (.aload_n 0, 1) := by decide +kernel
theorem dX8_bring_12 : decode cX8_bring 12 = .ok (.aload_n 0, 1) := by decide +kernel
theorem dX8_bring_13 : decode cX8_bring 13 = .ok (.getfield 19, 3) := by decide +kernel
theorem dX8_bring_16 : decode cX8_bring 16 = .ok (.iload_n 1, 1) := by decide +kernel
theorem dX8_bring_17 : decode cX8_bring 17 = .ok (.invokevirtual 93, 3) := by decide +kernel
theorem dX8_bring_20 : decode cX8_bring 20 = .ok (.invokevirtual 227, 3) := by decide +kernel
theorem dX8_bring_23 : decode cX8_bring 23 = .ok (.ireturn, 1) := by decide +kernel
set_option maxRecDepth 20000 in
theorem ggX8_exchange_X2_prepare : GoodIn wsX8_exchange wsX2_prepare := goodIn_r _ [6, 7, 8, 9, 10, 11, 12, 13, 14, 15, 16, 17, 18, 19, 20, 21, 22, 23, 24, 25, 26, 27, 28, 29, 30, 31, 32, 33, 34, 35, 36, 37, 38, 39, 40, 41, 42, 43, 44, 45, 46, 47, 48, 49, 50, 51, 116, 117, 118, 119, 120, 121, 122, 123, 124, 125, 126, 127, 128, 129, 130, 131, 132, 133, 134, 135, 136, 137] (by decide +kernel) (by decide +kernel)
set_option maxRecDepth 20000 in
theorem gX8_exchange_X2_prepare_n223 : GoodIn wsX8_exchange (wsX2_prepare) := ggX8_exchange_X2_prepare
set_option maxRecDepth 20000 in
theorem ggX8_exchange_X5_tryExchange : GoodIn wsX8_exchange wsX5_tryExchange := goodIn_r _ [54, 14, 25, 55, 28, 56, 57, 37, 58, 59, 60, 33, 61, 62, 63, 64, 34, 65, 66, 67, 68, 69, 70, 71, 72, 35, 73, 74, 75, 11, 76, 22, 77, 78, 79, 80, 81, 82, 83, 84, 85, 86, 87, 88, 89, 36, 90, 91, 92, 93, 17, 26, 94, 95, 96, 119, 120, 121, 122, 123, 124, 125, 126, 127, 128, 129, 130, 131, 132, 133] (by decide +kernel) (by decide +kernel)
set_option maxRecDepth 20000 in
theorem gX8_exchange_X5_tryExchange_n96 : GoodIn wsX8_exchange (wsX5_tryExchange) := ggX8_exchange_X5_tryExchange
set_option maxRecDepth 20000 in
theorem ggX8_exchange_X8_finishAction : GoodIn wsX8_exchange wsX8_finishAction := goodIn_ca (goodIn_ca (goodIn_ca (goodIn_r _ [100, 101, 102, 103, 104, 105, 106, 1, 107, 4, 108, 109, 9, 8, 110, 111, 112, 113, 114, 115, 116, 117, 118] (by decide +kernel) (by decide +kernel)) (goodIn_sub (fun _ h => List.mem_cons_of_mem _ (List.mem_append_left _ (List.mem_append_left _ (List.mem_append_right _ h)))) (by decide +kernel))) (goodIn_sub (fun _ h => List.mem_cons_of_mem _ (List.mem_append_left _ (List.mem_append_right _ h))) (by decide +kernel))) (goodIn_sub (fun _ h => List.mem_cons_of_mem _ (List.mem_append_right _ h)) (by decide +kernel))
set_option maxRecDepth 20000 in
theorem gX8_exchange_X8_finishAction : GoodIn wsX8_exchange (wsV RX8 227 RX8 yX8_finishAction wsX8_finishAction) := goodIn_app (goodIn_of _ (by decide +kernel)) ggX8_exchange_X8_finishAction
theorem dX8_exchange_0 : decode cX8_exchange 0 = .ok (.aload_n 0, 1) := by decide +kernel
theorem dX8_exchange_1 : decode cX8_exchange 1 = .ok (.getfield 29, 3) := by decide +kernel
theorem dX8_exchange_4 : decode cX8_exchange 4 = .ok (.aload_n 0, 1) := by decide +kernel
theorem dX8_exchange_5 : decode cX8_exchange 5 = .ok (.getfield 19, 3) := by decide +kernel
theorem dX8_exchange_8 : decode cX8_exchange 8 = .ok (.invokevirtual 223, 3) := by decide +kernel
theorem dX8_exchange_11 : decode cX8_exchange 11 = .ok (.aload_n 0, 1) := by decide +kernel
theorem dX8_exchange_12 : decode cX8_exchange 12 = .ok (.aload_n 0, 1) := by decide +kernel
theorem dX8_exchange_13 : decode cX8_exchange 13 = .ok (.getfield 19, 3) := by decide +kernel
theorem dX8_exchange_16 : decode cX8_exchange 16 = .ok (.iload_n 1, 1) := by decide +kernel
theorem dX8_exchange_17 : decode cX8_exchange 17 = .ok (.iload_n 2, 1) := by decide +kernel
theorem dX8_exchange_18 : decode cX8_exchange 18 = .ok (.invokevirtual 96, 3) := by decide +kernel
theorem dX8_exchange_21 : decode cX8_exchange 21 = .ok (.invokevirtual 227, 3) := by decide +kernel
theorem dX8_exchange_24 : decode cX8_exchange 24 = .ok (.ireturn, 1) := by decide +kernel
set_option maxRecDepth 20000 in
theorem ggX8_advance_X2_prepare : GoodIn wsX8_advance wsX2_prepare := goodIn_r _ [6, 7, 8, 9, 10, 11, 12, 13, 14, 15, 16, 17, 18, 19, 20, 21, 22, 23, 24, 25, 26, 27, 28, 29, 30, 31, 32, 33, 34, 35, 36, 37, 38, 39, 40, 41, 42, 43, 44, 45, 46, 47, 48, 49, 50, 51, 104, 105, 106, 107, 108, 109, 110, 111, 112, 113, 114, 115, 116, 117, 118, 119, 120, 121, 122, 123, 124, 125] (by decide +kernel) (by decide +kernel)
set_option maxRecDepth 20000 in
theorem gX8_advance_X2_prepare_n223 : GoodIn wsX8_advance (wsX2_prepare) := ggX8_advance_X2_prepare
set_option maxRecDepth 20000 in
theorem ggX8_advance_X5_tryAdvance : GoodIn wsX8_advance wsX5_tryAdvance := goodIn_r _ [54, 14, 15, 23, 25, 55, 56, 57, 58, 28, 59, 60, 37, 61, 62, 63, 39, 64, 65, 45, 66, 67, 68, 33, 69, 70, 71, 72, 34, 73, 74, 75, 76, 77, 35, 78, 79, 80, 36, 81, 82, 83, 42, 44, 84, 107, 108, 109, 110, 111, 112, 113, 114, 115, 116, 117, 118, 119, 120, 121, 122, 123, 124] (by decide +kernel) (by decide +kernel)
set_option maxRecDepth 20000 in
theorem gX8_advance_X5_tryAdvance_n230 : GoodIn wsX8_advance (wsX5_tryAdvance) := ggX8_advance_X5_tryAdvance
set_option maxRecDepth 20000 in
theorem ggX8_advance_X8_finishAction : GoodIn wsX8_advance wsX8_finishAction := goodIn_ca (goodIn_ca (goodIn_ca (goodIn_r _ [88, 89, 90, 91, 92, 93, 94, 1, 95, 4, 96, 97, 9, 8, 98, 99, 100, 101, 102, 103, 104, 105, 106] (by decide +kernel) (by decide +kernel)) (goodIn_sub (fun _ h => List.mem_cons_of_mem _ (List.mem_append_left _ (List.mem_append_left _ (List.mem_append_right _ h)))) (by decide +kernel))) (goodIn_sub (fun _ h => List.mem_cons_of_mem _ (List.mem_append_left _ (List.mem_append_right _ h))) (by decide +kernel))) (goodIn_sub (fun _ h => List.mem_cons_of_mem _ (List.mem_append_right _ h)) (by decide +kernel))
set_option maxRecDepth 20000 in
theorem gX8_advance_X8_finishAction : GoodIn wsX8_advance (wsV RX8 227 RX8 yX8_finishAction wsX8_finishAction) := goodIn_app (goodIn_of _ (by decide +kernel)) ggX8_advance_X8_finishAction
theorem dX8_advance_0 : decode cX8_advance 0 = .ok (.aload_n 0, 1) := by decide +kernel
theorem dX8_advance_1 : decode cX8_advance 1 = .ok (.getfield 29, 3) := by decide +kernel
theorem dX8_advance_4 : decode cX8_advance 4 = .ok (.aload_n 0, 1) := by decide +kernel
theorem dX8_advance_5 : decode cX8_advance 5 = .ok (.getfield 19, 3) := by decide +kernel
theorem dX8_advance_8 : decode cX8_advance 8 = .ok (.invokevirtual 223, 3) := by decide +kernel
theorem dX8_advance_11 : decode cX8_advance 11 = .ok (.aload_n 0, 1) := by decide +kernel
theorem dX8_advance_12 : decode cX8_advance 12 = .ok (.aload_n 0, 1) := by decide +kernel
theorem dX8_advance_13 : decode cX8_advance 13 = .ok (.getfield 19, 3) := by decide +kernel
theorem dX8_advance_16 : decode cX8_advance 16 = .ok (.iload_n 1, 1) := by decide +kernel
theorem dX8_advance_17 : decode cX8_advance 17 = .ok (.iload_n 2, 1) := by decide +kernel
theorem dX8_advance_18 : decode cX8_advance 18 = .ok (.iload_n 3, 1) := by decide +kernel
theorem dX8_advance_19 : decode cX8_advance 19 = .ok (.invokevirtual 230, 3) := by decide +kernel
theorem dX8_advance_22 : decode cX8_advance 22 = .ok (.invokevirtual 227, 3) := by decide +kernel
theorem dX8_advance_25 : decode cX8_advance 25 = .ok (.ireturn, 1) := by decide +kernel
set_option maxRecDepth 20000 in
theorem ggX8_deliver_X2_prepare : GoodIn wsX8_deliver wsX2_prepare := goodIn_r _ [6, 7, 8, 9, 10, 11, 12, 13, 14, 15, 16, 17, 18, 19, 20, 21, 22, 23, 24, 25, 26, 27, 28, 29, 30, 31, 32, 33, 34, 35, 36, 37, 38, 39, 40, 41, 42, 43, 44, 45, 46, 47, 48, 49, 50, 51, 134, 135, 136, 137, 138, 139, 140, 141, 142, 143, 144, 145, 146, 147, 148, 149, 150, 151, 152, 153, 154, 155] (by decide +kernel) (by decide +kernel)
set_option maxRecDepth 20000 in
theorem gX8_deliver_X2_prepare_n223 : GoodIn wsX8_deliver (wsX2_prepare) := ggX8_deliver_X2_prepare
set_option maxRecDepth 20000 in
theorem ggX8_deliver_X5_tryDeliver : GoodIn wsX8_deliver wsX5_tryDeliver := goodIn_r _ [54, 14, 15, 23, 55, 28, 56, 57, 37, 58, 59, 60, 33, 61, 62, 63, 64, 34, 65, 66, 39, 67, 68, 69, 70, 71, 72, 42, 73, 74, 75, 76, 45, 77, 78, 79, 80, 81, 82, 11, 83, 22, 84, 85, 86, 35, 87, 88, 89, 90, 91, 92, 93, 94, 95, 96, 44, 97, 98, 99, 100, 101, 102, 103, 104, 105, 106, 107, 36, 108, 109, 110, 111, 112, 113, 114, 17, 26, 137, 138, 139, 140, 141, 142, 143, 144, 145, 146, 147, 148, 149, 150, 151, 152, 153, 154] (by decide +kernel) (by decide +kernel)
set_option maxRecDepth 20000 in
theorem gX8_deliver_X5_tryDeliver_n233 : GoodIn wsX8_deliver (wsX5_tryDeliver) := ggX8_deliver_X5_tryDeliver
set_option maxRecDepth 20000 in
theorem ggX8_deliver_X8_finishAction : GoodIn wsX8_deliver wsX8_finishAction := goodIn_ca (goodIn_ca (goodIn_ca (goodIn_r _ [118, 119, 120, 121, 122, 123, 124, 1, 125, 4, 126, 127, 9, 8, 128, 129, 130, 131, 132, 133, 134, 135, 136] (by decide +kernel) (by decide +kernel)) (goodIn_sub (fun _ h => List.mem_cons_of_mem _ (List.mem_append_left _ (List.mem_append_left _ (List.mem_append_right _ h)))) (by decide +kernel))) (goodIn_sub (fun _ h => List.mem_cons_of_mem _ (List.mem_append_left _ (List.mem_append_right _ h))) (by decide +kernel))) (goodIn_sub (fun _ h => List.mem_cons_of_mem _ (List.mem_append_right _ h)) (by decide +kernel))
set_option maxRecDepth 20000 in
theorem gX8_deliver_X8_finishAction : GoodIn wsX8_deliver (wsV RX8 227 RX8 yX8_finishAction wsX8_finishAction) := goodIn_app (goodIn_of _ (by decide +kernel)) ggX8_deliver_X8_finishAction
theorem dX8_deliver_0 : decode cX8_deliver 0 = .ok (.aload_n 0, 1) := by decide +kernel
theorem dX8_deliver_1 : decode cX8_deliver 1 = .ok (.getfield 29, 3) := by decide +kernel
theorem dX8_deliver_4 : decode cX8_deliver 4 = .ok (.aload_n 0, 1) := by decide +kernel
theorem dX8_deliver_5 : decode cX8_deliver 5 = .ok (.getfield 19, 3) := by decide +kernel
theorem dX8_deliver_8 : decode cX8_deliver 8 = .ok (.invokevirtual 223, 3) := by decide +kernel
theorem dX8_deliver_11 : decode cX8_deliver 11 = .ok (.aload_n 0, 1) := by decide +kernel
theorem dX8_deliver_12 : decode cX8_deliver 12 = .ok (.aload_n 0, 1) := by decide +kernel
theorem dX8_deliver_13 : decode cX8_deliver 13 = .ok (.getfield 19, 3) := by decide +kernel
theorem dX8_deliver_16 : decode cX8_deliver 16 = .ok (.iload_n 1, 1) := by decide +kernel
theorem dX8_deliver_17 : decode cX8_deliver 17 = .ok (.invokevirtual 233, 3) := by decide +kernel
theorem dX8_deliver_20 : decode cX8_deliver 20 = .ok (.invokevirtual 227, 3) := by decide +kernel
theorem dX8_deliver_23 : decode cX8_deliver 23 = .ok (.ireturn, 1) := by decide +kernel
set_option maxRecDepth 20000 in
theorem ggX8_take_X2_prepare : GoodIn wsX8_take wsX2_prepare := goodIn_r _ [6, 7, 8, 9, 10, 11, 12, 13, 14, 15, 16, 17, 18, 19, 20, 21, 22, 23, 24, 25, 26, 27, 28, 29, 30, 31, 32, 33, 34, 35, 36, 37, 38, 39, 40, 41, 42, 43, 44, 45, 46, 47, 48, 49, 50, 51, 100, 101, 102, 103, 104, 105, 106, 107, 108, 109, 110, 111, 112, 113, 114, 115, 116, 117, 118, 119, 120, 121] (by decide +kernel) (by decide +kernel)
set_option maxRecDepth 20000 in
theorem gX8_take_X2_prepare_n223 : GoodIn wsX8_take (wsX2_prepare) := ggX8_take_X2_prepare
set_option maxRecDepth 20000 in
theorem ggX8_take_X5_tryTake : GoodIn wsX8_take wsX5_tryTake := goodIn_r _ [54, 14, 24, 16, 55, 28, 56, 57, 37, 58, 59, 60, 61, 62, 63, 31, 34, 64, 65, 66, 67, 35, 68, 47, 69, 70, 50, 71, 72, 73, 74, 75, 76, 77, 78, 79, 80, 103, 104, 105, 106, 107, 108, 109, 110, 111, 112, 113, 114, 115, 116, 117, 121] (by decide +kernel) (by decide +kernel)
set_option maxRecDepth 20000 in
theorem gX8_take_X5_tryTake_n100 : GoodIn wsX8_take (wsX5_tryTake) := ggX8_take_X5_tryTake
set_option maxRecDepth 20000 in
theorem ggX8_take_X8_finishAction : GoodIn wsX8_take wsX8_finishAction := goodIn_ca (goodIn_ca (goodIn_ca (goodIn_r _ [84, 85, 86, 87, 88, 89, 90, 1, 91, 4, 92, 93, 9, 8, 94, 95, 96, 97, 98, 99, 100, 101, 102] (by decide +kernel) (by decide +kernel)) (goodIn_sub (fun _ h => List.mem_cons_of_mem _ (List.mem_append_left _ (List.mem_append_left _ (List.mem_append_right _ h)))) (by decide +kernel))) (goodIn_sub (fun _ h => List.mem_cons_of_mem _ (List.mem_append_left _ (List.mem_append_right _ h))) (by decide +kernel))) (goodIn_sub (fun _ h => List.mem_cons_of_mem _ (List.mem_append_right _ h)) (by decide +kernel))
set_option maxRecDepth 20000 in
theorem gX8_take_X8_finishAction : GoodIn wsX8_take (wsV RX8 227 RX8 yX8_finishAction wsX8_finishAction) := goodIn_app (goodIn_of _ (by decide +kernel)) ggX8_take_X8_finishAction
theorem dX8_take_0 : decode cX8_take 0 = .ok (.aload_n 0, 1) := by decide +kernel
theorem dX8_take_1 : decode cX8_take 1 = .ok (.getfield 29, 3) := by decide +kernel
theorem dX8_take_4 : decode cX8_take 4 = .ok (.aload_n 0, 1) := by decide +kernel
theorem dX8_take_5 : decode cX8_take 5 = .ok (.getfield 19, 3) := by decide +kernel
theorem dX8_take_8 : decode cX8_take 8 = .ok (.invokevirtual 223, 3) := by decide +kernel
theorem dX8_take_11 : decode cX8_take 11 = .ok (.aload_n 0, 1) := by decide +kernel
theorem dX8_take_12 : decode cX8_take 12 = .ok (.aload_n 0, 1) := by decide +kernel
theorem dX8_take_13 : decode cX8_take 13 = .ok (.getfield 19, 3) := by decide +kernel
theorem dX8_take_16 : decode cX8_take 16 = .ok (.iload_n 1, 1) := by decide +kernel
theorem dX8_take_17 : decode cX8_take 17 = .ok (.iload_n 2, 1) := by decide +kernel
theorem dX8_take_18 : decode cX8_take 18 = .ok (.iload_n 3, 1) := by decide +kernel
theorem dX8_take_19 : decode cX8_take 19 = .ok (.invokevirtual 100, 3) := by decide +kernel
theorem dX8_take_22 : decode cX8_take 22 = .ok (.invokevirtual 227, 3) := by decide +kernel
theorem dX8_take_25 : decode cX8_take 25 = .ok (.ireturn, 1) := by decide +kernel
set_option maxRecDepth 20000 in
theorem ggX8_settle_X2_prepare : GoodIn wsX8_settle wsX2_prepare := goodIn_r _ [6, 7, 8, 9, 10, 11, 12, 13, 14, 15, 16, 17, 18, 19, 20, 21, 22, 23, 24, 25, 26, 27, 28, 29, 30, 31, 32, 33, 34, 35, 36, 37, 38, 39, 40, 41, 42, 43, 44, 45, 46, 47, 48, 49, 50, 51, 94, 95, 96, 97, 98, 99, 100, 101, 102, 103, 104, 105, 106, 107, 108, 109, 110, 111, 112, 113, 114, 115] (by decide +kernel) (by decide +kernel)
set_option maxRecDepth 20000 in
theorem gX8_settle_X2_prepare_n223 : GoodIn wsX8_settle (wsX2_prepare) := ggX8_settle_X2_prepare
set_option maxRecDepth 20000 in
theorem ggX8_settle_X5_trySettle : GoodIn wsX8_settle wsX5_trySettle := goodIn_r _ [54, 16, 22, 55, 56, 57, 58, 59, 60, 61, 62, 47, 63, 64, 50, 65, 66, 67, 68, 69, 70, 71, 72, 73, 11, 74, 17, 26, 97, 98, 99, 100, 101, 102, 103, 104, 105, 115] (by decide +kernel) (by decide +kernel)
set_option maxRecDepth 20000 in
theorem gX8_settle_X5_trySettle_n236 : GoodIn wsX8_settle (wsX5_trySettle) := ggX8_settle_X5_trySettle
set_option maxRecDepth 20000 in
theorem ggX8_settle_X8_finishAction : GoodIn wsX8_settle wsX8_finishAction := goodIn_ca (goodIn_ca (goodIn_ca (goodIn_r _ [78, 79, 80, 81, 82, 83, 84, 1, 85, 4, 86, 87, 9, 8, 88, 89, 90, 91, 92, 93, 94, 95, 96] (by decide +kernel) (by decide +kernel)) (goodIn_sub (fun _ h => List.mem_cons_of_mem _ (List.mem_append_left _ (List.mem_append_left _ (List.mem_append_right _ h)))) (by decide +kernel))) (goodIn_sub (fun _ h => List.mem_cons_of_mem _ (List.mem_append_left _ (List.mem_append_right _ h))) (by decide +kernel))) (goodIn_sub (fun _ h => List.mem_cons_of_mem _ (List.mem_append_right _ h)) (by decide +kernel))
set_option maxRecDepth 20000 in
theorem gX8_settle_X8_finishAction : GoodIn wsX8_settle (wsV RX8 227 RX8 yX8_finishAction wsX8_finishAction) := goodIn_app (goodIn_of _ (by decide +kernel)) ggX8_settle_X8_finishAction
theorem dX8_settle_0 : decode cX8_settle 0 = .ok (.aload_n 0, 1) := by decide +kernel
theorem dX8_settle_1 : decode cX8_settle 1 = .ok (.getfield 29, 3) := by decide +kernel
theorem dX8_settle_4 : decode cX8_settle 4 = .ok (.aload_n 0, 1) := by decide +kernel
theorem dX8_settle_5 : decode cX8_settle 5 = .ok (.getfield 19, 3) := by decide +kernel
theorem dX8_settle_8 : decode cX8_settle 8 = .ok (.invokevirtual 223, 3) := by decide +kernel
theorem dX8_settle_11 : decode cX8_settle 11 = .ok (.aload_n 0, 1) := by decide +kernel
theorem dX8_settle_12 : decode cX8_settle 12 = .ok (.aload_n 0, 1) := by decide +kernel
theorem dX8_settle_13 : decode cX8_settle 13 = .ok (.getfield 19, 3) := by decide +kernel
theorem dX8_settle_16 : decode cX8_settle 16 = .ok (.iload_n 1, 1) := by decide +kernel
theorem dX8_settle_17 : decode cX8_settle 17 = .ok (.iload_n 2, 1) := by decide +kernel
theorem dX8_settle_18 : decode cX8_settle 18 = .ok (.iload_n 3, 1) := by decide +kernel
theorem dX8_settle_19 : decode cX8_settle 19 = .ok (.iload 4, 2) := by decide +kernel
theorem dX8_settle_21 : decode cX8_settle 21 = .ok (.invokevirtual 236, 3) := by decide +kernel
theorem dX8_settle_24 : decode cX8_settle 24 = .ok (.invokevirtual 227, 3) := by decide +kernel
theorem dX8_settle_27 : decode cX8_settle 27 = .ok (.ireturn, 1) := by decide +kernel
set_option maxRecDepth 20000 in
theorem ggX8_buy_X2_prepare : GoodIn wsX8_buy wsX2_prepare := goodIn_r _ [6, 7, 8, 9, 10, 11, 12, 13, 14, 15, 16, 17, 18, 19, 20, 21, 22, 23, 24, 25, 26, 27, 28, 29, 30, 31, 32, 33, 34, 35, 36, 37, 38, 39, 40, 41, 42, 43, 44, 45, 46, 47, 48, 49, 50, 51, 90, 91, 92, 93, 94, 95, 96, 97, 98, 99, 100, 101, 102, 103, 104, 105, 106, 107, 108, 109, 110, 111] (by decide +kernel) (by decide +kernel)
set_option maxRecDepth 20000 in
theorem gX8_buy_X2_prepare_n223 : GoodIn wsX8_buy (wsX2_prepare) := ggX8_buy_X2_prepare
set_option maxRecDepth 20000 in
theorem ggX8_buy_X5_tryBuy : GoodIn wsX8_buy wsX5_tryBuy := goodIn_r _ [54, 14, 22, 55, 28, 56, 57, 37, 58, 59, 60, 61, 62, 63, 35, 64, 65, 66, 67, 11, 68, 17, 26, 69, 70, 93, 94, 95, 96, 97, 98, 99, 100, 101, 102, 103, 104, 105, 106, 107] (by decide +kernel) (by decide +kernel)
set_option maxRecDepth 20000 in
theorem gX8_buy_X5_tryBuy_n239 : GoodIn wsX8_buy (wsX5_tryBuy) := ggX8_buy_X5_tryBuy
set_option maxRecDepth 20000 in
theorem ggX8_buy_X8_finishAction : GoodIn wsX8_buy wsX8_finishAction := goodIn_ca (goodIn_ca (goodIn_ca (goodIn_r _ [74, 75, 76, 77, 78, 79, 80, 1, 81, 4, 82, 83, 9, 8, 84, 85, 86, 87, 88, 89, 90, 91, 92] (by decide +kernel) (by decide +kernel)) (goodIn_sub (fun _ h => List.mem_cons_of_mem _ (List.mem_append_left _ (List.mem_append_left _ (List.mem_append_right _ h)))) (by decide +kernel))) (goodIn_sub (fun _ h => List.mem_cons_of_mem _ (List.mem_append_left _ (List.mem_append_right _ h))) (by decide +kernel))) (goodIn_sub (fun _ h => List.mem_cons_of_mem _ (List.mem_append_right _ h)) (by decide +kernel))
set_option maxRecDepth 20000 in
theorem gX8_buy_X8_finishAction : GoodIn wsX8_buy (wsV RX8 227 RX8 yX8_finishAction wsX8_finishAction) := goodIn_app (goodIn_of _ (by decide +kernel)) ggX8_buy_X8_finishAction
theorem dX8_buy_0 : decode cX8_buy 0 = .ok (.aload_n 0, 1) := by decide +kernel
theorem dX8_buy_1 : decode cX8_buy 1 = .ok (.getfield 29, 3) := by decide +kernel
theorem dX8_buy_4 : decode cX8_buy 4 = .ok (.aload_n 0, 1) := by decide +kernel
theorem dX8_buy_5 : decode cX8_buy 5 = .ok (.getfield 19, 3) := by decide +kernel
theorem dX8_buy_8 : decode cX8_buy 8 = .ok (.invokevirtual 223, 3) := by decide +kernel
theorem dX8_buy_11 : decode cX8_buy 11 = .ok (.aload_n 0, 1) := by decide +kernel
theorem dX8_buy_12 : decode cX8_buy 12 = .ok (.aload_n 0, 1) := by decide +kernel
theorem dX8_buy_13 : decode cX8_buy 13 = .ok (.getfield 19, 3) := by decide +kernel
theorem dX8_buy_16 : decode cX8_buy 16 = .ok (.iload_n 1, 1) := by decide +kernel
theorem dX8_buy_17 : decode cX8_buy 17 = .ok (.iload_n 2, 1) := by decide +kernel
theorem dX8_buy_18 : decode cX8_buy 18 = .ok (.invokevirtual 239, 3) := by decide +kernel
theorem dX8_buy_21 : decode cX8_buy 21 = .ok (.invokevirtual 227, 3) := by decide +kernel
theorem dX8_buy_24 : decode cX8_buy 24 = .ok (.ireturn, 1) := by decide +kernel
set_option maxRecDepth 20000 in
theorem ggX8_days_X2_prepare : GoodIn wsX8_days wsX2_prepare := goodIn_r _ [6, 7, 8, 9, 10, 11, 12, 13, 14, 15, 16, 17, 18, 19, 20, 21, 22, 23, 24, 25, 26, 27, 28, 29, 30, 31, 32, 33, 34, 35, 36, 37, 38, 39, 40, 41, 42, 43, 44, 45, 46, 47, 48, 49, 50, 51, 75, 76, 77, 78, 79, 80, 81, 82, 83, 84, 85, 86, 87, 88, 89, 90, 91, 92, 93, 94, 95, 96] (by decide +kernel) (by decide +kernel)
set_option maxRecDepth 20000 in
theorem gX8_days_X2_prepare_n223 : GoodIn wsX8_days (wsX2_prepare) := ggX8_days_X2_prepare
set_option maxRecDepth 20000 in
theorem ggX8_days_X5_tryDays : GoodIn wsX8_days wsX5_tryDays := goodIn_r _ [54, 23, 78, 79, 80, 81, 82, 83, 84, 85, 86] (by decide +kernel) (by decide +kernel)
set_option maxRecDepth 20000 in
theorem gX8_days_X5_tryDays_n103 : GoodIn wsX8_days (wsX5_tryDays) := ggX8_days_X5_tryDays
set_option maxRecDepth 20000 in
theorem ggX8_days_X8_finishAction : GoodIn wsX8_days wsX8_finishAction := goodIn_ca (goodIn_ca (goodIn_ca (goodIn_r _ [59, 60, 61, 62, 63, 64, 65, 1, 66, 4, 67, 68, 9, 8, 69, 70, 71, 72, 73, 74, 75, 76, 77] (by decide +kernel) (by decide +kernel)) (goodIn_sub (fun _ h => List.mem_cons_of_mem _ (List.mem_append_left _ (List.mem_append_left _ (List.mem_append_right _ h)))) (by decide +kernel))) (goodIn_sub (fun _ h => List.mem_cons_of_mem _ (List.mem_append_left _ (List.mem_append_right _ h))) (by decide +kernel))) (goodIn_sub (fun _ h => List.mem_cons_of_mem _ (List.mem_append_right _ h)) (by decide +kernel))
set_option maxRecDepth 20000 in
theorem gX8_days_X8_finishAction : GoodIn wsX8_days (wsV RX8 227 RX8 yX8_finishAction wsX8_finishAction) := goodIn_app (goodIn_of _ (by decide +kernel)) ggX8_days_X8_finishAction
theorem dX8_days_0 : decode cX8_days 0 = .ok (.aload_n 0, 1) := by decide +kernel
theorem dX8_days_1 : decode cX8_days 1 = .ok (.getfield 29, 3) := by decide +kernel
theorem dX8_days_4 : decode cX8_days 4 = .ok (.aload_n 0, 1) := by decide +kernel
theorem dX8_days_5 : decode cX8_days 5 = .ok (.getfield 19, 3) := by decide +kernel
theorem dX8_days_8 : decode cX8_days 8 = .ok (.invokevirtual 223, 3) := by decide +kernel
theorem dX8_days_11 : decode cX8_days 11 = .ok (.aload_n 0, 1) := by decide +kernel
theorem dX8_days_12 : decode cX8_days 12 = .ok (.aload_n 0, 1) := by decide +kernel
theorem dX8_days_13 : decode cX8_days 13 = .ok (.getfield 19, 3) := by decide +kernel
theorem dX8_days_16 : decode cX8_days 16 = .ok (.iload_n 1, 1) := by decide +kernel
theorem dX8_days_17 : decode cX8_days 17 = .ok (.invokevirtual 103, 3) := by decide +kernel
theorem dX8_days_20 : decode cX8_days 20 = .ok (.invokevirtual 227, 3) := by decide +kernel
theorem dX8_days_23 : decode cX8_days 23 = .ok (.ireturn, 1) := by decide +kernel
set_option maxRecDepth 20000 in
theorem ggX8_set_X2_prepare : GoodIn wsX8_set wsX2_prepare := goodIn_r _ [6, 7, 8, 9, 10, 11, 12, 13, 14, 15, 16, 17, 18, 19, 20, 21, 22, 23, 24, 25, 26, 27, 28, 29, 30, 31, 32, 33, 34, 35, 36, 37, 38, 39, 40, 41, 42, 43, 44, 45, 46, 47, 48, 49, 50, 51, 77, 78, 79, 80, 81, 82, 83, 84, 85, 86, 87, 88, 89, 90, 91, 92, 93, 94, 95, 96, 97, 98] (by decide +kernel) (by decide +kernel)
set_option maxRecDepth 20000 in
theorem gX8_set_X2_prepare_n223 : GoodIn wsX8_set (wsX2_prepare) := ggX8_set_X2_prepare
set_option maxRecDepth 20000 in
theorem ggX8_set_X5_trySet : GoodIn wsX8_set wsX5_trySet := goodIn_r _ [54, 22, 55, 56, 57, 80, 81, 82, 83, 84, 85, 86, 87, 88] (by decide +kernel) (by decide +kernel)
set_option maxRecDepth 20000 in
theorem gX8_set_X5_trySet_n242 : GoodIn wsX8_set (wsX5_trySet) := ggX8_set_X5_trySet
set_option maxRecDepth 20000 in
theorem ggX8_set_X8_finishAction : GoodIn wsX8_set wsX8_finishAction := goodIn_ca (goodIn_ca (goodIn_ca (goodIn_r _ [61, 62, 63, 64, 65, 66, 67, 1, 68, 4, 69, 70, 9, 8, 71, 72, 73, 74, 75, 76, 77, 78, 79] (by decide +kernel) (by decide +kernel)) (goodIn_sub (fun _ h => List.mem_cons_of_mem _ (List.mem_append_left _ (List.mem_append_left _ (List.mem_append_right _ h)))) (by decide +kernel))) (goodIn_sub (fun _ h => List.mem_cons_of_mem _ (List.mem_append_left _ (List.mem_append_right _ h))) (by decide +kernel))) (goodIn_sub (fun _ h => List.mem_cons_of_mem _ (List.mem_append_right _ h)) (by decide +kernel))
set_option maxRecDepth 20000 in
theorem gX8_set_X8_finishAction : GoodIn wsX8_set (wsV RX8 227 RX8 yX8_finishAction wsX8_finishAction) := goodIn_app (goodIn_of _ (by decide +kernel)) ggX8_set_X8_finishAction
theorem dX8_set_0 : decode cX8_set 0 = .ok (.aload_n 0, 1) := by decide +kernel
theorem dX8_set_1 : decode cX8_set 1 = .ok (.getfield 29, 3) := by decide +kernel
theorem dX8_set_4 : decode cX8_set 4 = .ok (.aload_n 0, 1) := by decide +kernel
theorem dX8_set_5 : decode cX8_set 5 = .ok (.getfield 19, 3) := by decide +kernel
theorem dX8_set_8 : decode cX8_set 8 = .ok (.invokevirtual 223, 3) := by decide +kernel
theorem dX8_set_11 : decode cX8_set 11 = .ok (.aload_n 0, 1) := by decide +kernel
theorem dX8_set_12 : decode cX8_set 12 = .ok (.aload_n 0, 1) := by decide +kernel
theorem dX8_set_13 : decode cX8_set 13 = .ok (.getfield 19, 3) := by decide +kernel
theorem dX8_set_16 : decode cX8_set 16 = .ok (.iload_n 1, 1) := by decide +kernel
theorem dX8_set_17 : decode cX8_set 17 = .ok (.iload_n 2, 1) := by decide +kernel
theorem dX8_set_18 : decode cX8_set 18 = .ok (.invokevirtual 242, 3) := by decide +kernel
theorem dX8_set_21 : decode cX8_set 21 = .ok (.invokevirtual 227, 3) := by decide +kernel
theorem dX8_set_24 : decode cX8_set 24 = .ok (.ireturn, 1) := by decide +kernel
set_option maxRecDepth 20000 in
theorem ggX8_undo_X2_takeBack : GoodIn wsX8_undo wsX2_takeBack := goodIn_r _ [8, 9, 10, 11, 12, 13, 14, 15, 16, 17, 18, 19, 20, 21, 22, 23, 24, 25, 26, 27, 28, 29, 30, 31, 32, 33, 34, 35, 36, 37, 38, 39, 40, 41, 42, 43, 44, 45, 46, 47, 48, 49, 50, 51, 52, 53, 60, 61, 62, 63, 64, 65, 66, 67, 68, 69, 70, 71, 72, 73, 74, 75, 76, 77, 78, 79, 80, 81] (by decide +kernel) (by decide +kernel)
set_option maxRecDepth 20000 in
theorem gX8_undo_X2_takeBack_n246 : GoodIn wsX8_undo (wsX2_takeBack) := ggX8_undo_X2_takeBack
theorem dX8_undo_0 : decode cX8_undo 0 = .ok (.aload_n 0, 1) := by decide +kernel
theorem dX8_undo_1 : decode cX8_undo 1 = .ok (.getfield 29, 3) := by decide +kernel
theorem dX8_undo_4 : decode cX8_undo 4 = .ok (.getfield 245, 3) := by decide +kernel
theorem dX8_undo_7 : decode cX8_undo 7 = .ok (.ifCond .ne 11, 3) := by decide +kernel
theorem dX8_undo_10 : decode cX8_undo 10 = .ok (.new 48, 3) := by decide +kernel
theorem dX8_undo_13 : decode cX8_undo 13 = .ok (.dup, 1) := by decide +kernel
theorem dX8_undo_14 : decode cX8_undo 14 = .ok (.invokespecial 50, 3) := by decide +kernel
theorem dX8_undo_17 : decode cX8_undo 17 = .ok (.athrow, 1) := by decide +kernel
theorem dX8_undo_18 : decode cX8_undo 18 = .ok (.aload_n 0, 1) := by decide +kernel
theorem dX8_undo_19 : decode cX8_undo 19 = .ok (.getfield 29, 3) := by decide +kernel
theorem dX8_undo_22 : decode cX8_undo 22 = .ok (.aload_n 0, 1) := by decide +kernel
theorem dX8_undo_23 : decode cX8_undo 23 = .ok (.getfield 19, 3) := by decide +kernel
theorem dX8_undo_26 : decode cX8_undo 26 = .ok (.invokevirtual 246, 3) := by decide +kernel
theorem dX8_undo_29 : decode cX8_undo 29 = .ok (.aload_n 0, 1) := by decide +kernel
theorem dX8_undo_30 : decode cX8_undo 30 = .ok (.getfield 29, 3) := by decide +kernel
theorem dX8_undo_33 : decode cX8_undo 33 = .ok (.getfield 245, 3) := by decide +kernel
theorem dX8_undo_36 : decode cX8_undo 36 = .ok (.ireturn, 1) := by decide +kernel
set_option maxRecDepth 20000 in
theorem ggX8_finishAction_X2_keepPrepared : GoodIn wsX8_finishAction wsX2_keepPrepared := goodIn_r _ [11, 12, 13, 20, 21, 22] (by decide +kernel) (by decide +kernel)
set_option maxRecDepth 20000 in
theorem gX8_finishAction_X2_keepPrepared_n249 : GoodIn wsX8_finishAction (wsX2_keepPrepared) := ggX8_finishAction_X2_keepPrepared
theorem dX8_finishAction_0 : decode cX8_finishAction 0 = .ok (.iload_n 1, 1) := by decide +kernel
theorem dX8_finishAction_1 : decode cX8_finishAction 1 = .ok (.tableswitch 51 (-3) (-1) #[43, 35, 27], 27) := by decide +kernel
theorem dX8_finishAction_28 : decode cX8_finishAction 28 = .ok (.new 156, 3) := by decide +kernel
theorem dX8_finishAction_31 : decode cX8_finishAction 31 = .ok (.dup, 1) := by decide +kernel
theorem dX8_finishAction_32 : decode cX8_finishAction 32 = .ok (.invokespecial 158, 3) := by decide +kernel
theorem dX8_finishAction_35 : decode cX8_finishAction 35 = .ok (.athrow, 1) := by decide +kernel
theorem dX8_finishAction_36 : decode cX8_finishAction 36 = .ok (.new 41, 3) := by decide +kernel
theorem dX8_finishAction_39 : decode cX8_finishAction 39 = .ok (.dup, 1) := by decide +kernel
theorem dX8_finishAction_40 : decode cX8_finishAction 40 = .ok (.invokespecial 43, 3) := by decide +kernel
theorem dX8_finishAction_43 : decode cX8_finishAction 43 = .ok (.athrow, 1) := by decide +kernel
theorem dX8_finishAction_44 : decode cX8_finishAction 44 = .ok (.new 48, 3) := by decide +kernel
theorem dX8_finishAction_47 : decode cX8_finishAction 47 = .ok (.dup, 1) := by decide +kernel
theorem dX8_finishAction_48 : decode cX8_finishAction 48 = .ok (.invokespecial 50, 3) := by decide +kernel
theorem dX8_finishAction_51 : decode cX8_finishAction 51 = .ok (.athrow, 1) := by decide +kernel
theorem dX8_finishAction_52 : decode cX8_finishAction 52 = .ok (.aload_n 0, 1) := by decide +kernel
theorem dX8_finishAction_53 : decode cX8_finishAction 53 = .ok (.getfield 29, 3) := by decide +kernel
theorem dX8_finishAction_56 : decode cX8_finishAction 56 = .ok (.invokevirtual 249, 3) := by decide +kernel
theorem dX8_finishAction_59 : decode cX8_finishAction 59 = .ok (.iload_n 1, 1) := by decide +kernel
theorem dX8_finishAction_60 : decode cX8_finishAction 60 = .ok (.ireturn, 1) := by decide +kernel
set_option maxRecDepth 20000 in
theorem ggX8_complete_X8_isHolder : GoodIn wsX8_complete wsX8_isHolder := goodIn_r _ [7] (by decide +kernel) (by decide +kernel)
set_option maxRecDepth 20000 in
theorem gX8_complete_X8_isHolder : GoodIn wsX8_complete (va_wsS RX8 178 yX8_isHolder wsX8_isHolder) := goodIn_app (goodIn_of _ (by decide +kernel)) ggX8_complete_X8_isHolder
set_option maxRecDepth 20000 in
theorem ggX8_complete_X8_isKind : GoodIn wsX8_complete wsX8_isKind := goodIn_r _ [10] (by decide +kernel) (by decide +kernel)
set_option maxRecDepth 20000 in
theorem gX8_complete_X8_isKind : GoodIn wsX8_complete (va_wsS RX8 201 yX8_isKind wsX8_isKind) := goodIn_app (goodIn_of _ (by decide +kernel)) ggX8_complete_X8_isKind
set_option maxRecDepth 20000 in
theorem ggX8_complete_X7_mostCompleted : GoodIn wsX8_complete wsX7_mostCompleted := goodIn_r _ [14, 15, 16, 17, 18, 19, 20, 21, 22, 12, 23, 24, 25, 26, 27, 28, 29, 30, 31, 32, 33, 34, 50, 51, 52, 53, 54, 55] (by decide +kernel) (by decide +kernel)
set_option maxRecDepth 20000 in
theorem gX8_complete_X7_mostCompleted_n252 : GoodIn wsX8_complete (wsX7_mostCompleted) := ggX8_complete_X7_mostCompleted
theorem dX8_complete_0 : decode cX8_complete 0 = .ok (.iload_n 1, 1) := by decide +kernel
theorem dX8_complete_1 : decode cX8_complete 1 = .ok (.invokestatic 178, 3) := by decide +kernel
theorem dX8_complete_4 : decode cX8_complete 4 = .ok (.ifCond .eq 10, 3) := by decide +kernel
theorem dX8_complete_7 : decode cX8_complete 7 = .ok (.iload_n 2, 1) := by decide +kernel
theorem dX8_complete_8 : decode cX8_complete 8 = .ok (.invokestatic 201, 3) := by decide +kernel
theorem dX8_complete_11 : decode cX8_complete 11 = .ok (.ifCond .ne 11, 3) := by decide +kernel
theorem dX8_complete_14 : decode cX8_complete 14 = .ok (.new 156, 3) := by decide +kernel
theorem dX8_complete_17 : decode cX8_complete 17 = .ok (.dup, 1) := by decide +kernel
theorem dX8_complete_18 : decode cX8_complete 18 = .ok (.invokespecial 158, 3) := by decide +kernel
theorem dX8_complete_21 : decode cX8_complete 21 = .ok (.athrow, 1) := by decide +kernel
theorem dX8_complete_22 : decode cX8_complete 22 = .ok (.aload_n 0, 1) := by decide +kernel
theorem dX8_complete_23 : decode cX8_complete 23 = .ok (.getfield 19, 3) := by decide +kernel
theorem dX8_complete_26 : decode cX8_complete 26 = .ok (.getfield 109, 3) := by decide +kernel
theorem dX8_complete_29 : decode cX8_complete 29 = .ok (.iload_n 1, 1) := by decide +kernel
theorem dX8_complete_30 : decode cX8_complete 30 = .ok (.iload_n 2, 1) := by decide +kernel
theorem dX8_complete_31 : decode cX8_complete 31 = .ok (.invokevirtual 252, 3) := by decide +kernel
theorem dX8_complete_34 : decode cX8_complete 34 = .ok (.ireturn, 1) := by decide +kernel
set_option maxRecDepth 20000 in
theorem ggX8_takings_X8_isHolder : GoodIn wsX8_takings wsX8_isHolder := goodIn_r _ [7] (by decide +kernel) (by decide +kernel)
set_option maxRecDepth 20000 in
theorem gX8_takings_X8_isHolder : GoodIn wsX8_takings (va_wsS RX8 178 yX8_isHolder wsX8_isHolder) := goodIn_app (goodIn_of _ (by decide +kernel)) ggX8_takings_X8_isHolder
set_option maxRecDepth 20000 in
theorem ggX8_takings_X8_isKind : GoodIn wsX8_takings wsX8_isKind := goodIn_r _ [10] (by decide +kernel) (by decide +kernel)
set_option maxRecDepth 20000 in
theorem gX8_takings_X8_isKind : GoodIn wsX8_takings (va_wsS RX8 201 yX8_isKind wsX8_isKind) := goodIn_app (goodIn_of _ (by decide +kernel)) ggX8_takings_X8_isKind
set_option maxRecDepth 20000 in
theorem ggX8_takings_X7_fewestTakings : GoodIn wsX8_takings wsX7_fewestTakings := goodIn_r _ [14, 15, 16, 17, 18, 19, 20, 21, 12, 22, 23, 24, 25, 26, 27, 28, 29, 30, 31, 32, 33, 34, 35, 36, 37, 38, 39, 40, 41, 42, 43, 44, 45, 46, 47, 48, 49, 50, 51, 52, 53, 69, 70, 71, 72, 73, 74] (by decide +kernel) (by decide +kernel)
set_option maxRecDepth 20000 in
theorem gX8_takings_X7_fewestTakings_n255 : GoodIn wsX8_takings (wsX7_fewestTakings) := ggX8_takings_X7_fewestTakings
theorem dX8_takings_0 : decode cX8_takings 0 = .ok (.iload_n 1, 1) := by decide +kernel
theorem dX8_takings_1 : decode cX8_takings 1 = .ok (.invokestatic 178, 3) := by decide +kernel
theorem dX8_takings_4 : decode cX8_takings 4 = .ok (.ifCond .eq 10, 3) := by decide +kernel
theorem dX8_takings_7 : decode cX8_takings 7 = .ok (.iload_n 2, 1) := by decide +kernel
theorem dX8_takings_8 : decode cX8_takings 8 = .ok (.invokestatic 201, 3) := by decide +kernel
theorem dX8_takings_11 : decode cX8_takings 11 = .ok (.ifCond .ne 11, 3) := by decide +kernel
theorem dX8_takings_14 : decode cX8_takings 14 = .ok (.new 156, 3) := by decide +kernel
theorem dX8_takings_17 : decode cX8_takings 17 = .ok (.dup, 1) := by decide +kernel
theorem dX8_takings_18 : decode cX8_takings 18 = .ok (.invokespecial 158, 3) := by decide +kernel
theorem dX8_takings_21 : decode cX8_takings 21 = .ok (.athrow, 1) := by decide +kernel
theorem dX8_takings_22 : decode cX8_takings 22 = .ok (.aload_n 0, 1) := by decide +kernel
theorem dX8_takings_23 : decode cX8_takings 23 = .ok (.getfield 19, 3) := by decide +kernel
theorem dX8_takings_26 : decode cX8_takings 26 = .ok (.getfield 109, 3) := by decide +kernel
theorem dX8_takings_29 : decode cX8_takings 29 = .ok (.iload_n 1, 1) := by decide +kernel
theorem dX8_takings_30 : decode cX8_takings 30 = .ok (.iload_n 2, 1) := by decide +kernel
theorem dX8_takings_31 : decode cX8_takings 31 = .ok (.invokevirtual 255, 3) := by decide +kernel
theorem dX8_takings_34 : decode cX8_takings 34 = .ok (.ireturn, 1) := by decide +kernel
set_option maxRecDepth 20000 in
theorem ggX8_bill_X8_isHolder : GoodIn wsX8_bill wsX8_isHolder := goodIn_r _ [9] (by decide +kernel) (by decide +kernel)
set_option maxRecDepth 20000 in
theorem gX8_bill_X8_isHolder : GoodIn wsX8_bill (va_wsS RX8 178 yX8_isHolder wsX8_isHolder) := goodIn_app (goodIn_of _ (by decide +kernel)) ggX8_bill_X8_isHolder
set_option maxRecDepth 20000 in
theorem ggX8_bill_X5_feesToPay : GoodIn wsX8_bill wsX5_feesToPay := goodIn_r _ [13, 14, 15, 16, 17, 11, 18, 19, 20, 21, 22, 23, 24, 25, 26, 27, 28, 29, 30, 31, 32, 33, 34, 35, 36, 37, 38, 39, 46, 47, 48, 49, 50, 51, 52, 53, 54, 55, 56, 57, 58, 59, 60] (by decide +kernel) (by decide +kernel)
set_option maxRecDepth 20000 in
theorem gX8_bill_X5_feesToPay_n258 : GoodIn wsX8_bill (wsX5_feesToPay) := ggX8_bill_X5_feesToPay
theorem dX8_bill_0 : decode cX8_bill 0 = .ok (.iload_n 1, 1) := by decide +kernel
theorem dX8_bill_1 : decode cX8_bill 1 = .ok (.invokestatic 178, 3) := by decide +kernel
theorem dX8_bill_4 : decode cX8_bill 4 = .ok (.ifCond .ne 11, 3) := by decide +kernel
theorem dX8_bill_7 : decode cX8_bill 7 = .ok (.new 156, 3) := by decide +kernel
theorem dX8_bill_10 : decode cX8_bill 10 = .ok (.dup, 1) := by decide +kernel
theorem dX8_bill_11 : decode cX8_bill 11 = .ok (.invokespecial 158, 3) := by decide +kernel
theorem dX8_bill_14 : decode cX8_bill 14 = .ok (.athrow, 1) := by decide +kernel
theorem dX8_bill_15 : decode cX8_bill 15 = .ok (.iload_n 2, 1) := by decide +kernel
theorem dX8_bill_16 : decode cX8_bill 16 = .ok (.ifCond .lt 9, 3) := by decide +kernel
theorem dX8_bill_19 : decode cX8_bill 19 = .ok (.iload_n 2, 1) := by decide +kernel
theorem dX8_bill_20 : decode cX8_bill 20 = .ok (.bipush 99, 2) := by decide +kernel
theorem dX8_bill_22 : decode cX8_bill 22 = .ok (.if_icmp .le 11, 3) := by decide +kernel
theorem dX8_bill_25 : decode cX8_bill 25 = .ok (.new 41, 3) := by decide +kernel
theorem dX8_bill_28 : decode cX8_bill 28 = .ok (.dup, 1) := by decide +kernel
theorem dX8_bill_29 : decode cX8_bill 29 = .ok (.invokespecial 43, 3) := by decide +kernel
theorem dX8_bill_32 : decode cX8_bill 32 = .ok (.athrow, 1) := by decide +kernel
theorem dX8_bill_33 : decode cX8_bill 33 = .ok (.aload_n 0, 1) := by decide +kernel
theorem dX8_bill_34 : decode cX8_bill 34 = .ok (.getfield 19, 3) := by decide +kernel
theorem dX8_bill_37 : decode cX8_bill 37 = .ok (.iload_n 1, 1) := by decide +kernel
theorem dX8_bill_38 : decode cX8_bill 38 = .ok (.iload_n 2, 1) := by decide +kernel
theorem dX8_bill_39 : decode cX8_bill 39 = .ok (.invokevirtual 258, 3) := by decide +kernel
theorem dX8_bill_42 : decode cX8_bill 42 = .ok (.ireturn, 1) := by decide +kernel
set_option maxRecDepth 20000 in
theorem ggX8_firstDue_X7_dueFirst : GoodIn wsX8_firstDue wsX7_dueFirst := goodIn_r _ [5, 6, 7, 8, 9, 10, 3, 11, 12, 13, 14, 15, 16, 17, 33, 34, 35, 36, 37, 38] (by decide +kernel) (by decide +kernel)
set_option maxRecDepth 20000 in
theorem gX8_firstDue_X7_dueFirst_n261 : GoodIn wsX8_firstDue (wsX7_dueFirst) := ggX8_firstDue_X7_dueFirst
theorem dX8_firstDue_0 : decode cX8_firstDue 0 = .ok (.aload_n 0, 1) := by decide +kernel
theorem dX8_firstDue_1 : decode cX8_firstDue 1 = .ok (.getfield 19, 3) := by decide +kernel
theorem dX8_firstDue_4 : decode cX8_firstDue 4 = .ok (.getfield 109, 3) := by decide +kernel
theorem dX8_firstDue_7 : decode cX8_firstDue 7 = .ok (.invokevirtual 261, 3) := by decide +kernel
theorem dX8_firstDue_10 : decode cX8_firstDue 10 = .ok (.ireturn, 1) := by decide +kernel
set_option maxRecDepth 20000 in
theorem ggX8_cheapest_X8_isHolder : GoodIn wsX8_cheapest wsX8_isHolder := goodIn_r _ [7] (by decide +kernel) (by decide +kernel)
set_option maxRecDepth 20000 in
theorem gX8_cheapest_X8_isHolder : GoodIn wsX8_cheapest (va_wsS RX8 178 yX8_isHolder wsX8_isHolder) := goodIn_app (goodIn_of _ (by decide +kernel)) ggX8_cheapest_X8_isHolder
set_option maxRecDepth 20000 in
theorem ggX8_cheapest_X8_isKind : GoodIn wsX8_cheapest wsX8_isKind := goodIn_r _ [10] (by decide +kernel) (by decide +kernel)
set_option maxRecDepth 20000 in
theorem gX8_cheapest_X8_isKind : GoodIn wsX8_cheapest (va_wsS RX8 201 yX8_isKind wsX8_isKind) := goodIn_app (goodIn_of _ (by decide +kernel)) ggX8_cheapest_X8_isKind
set_option maxRecDepth 20000 in
theorem ggX8_cheapest_X5_cheapestCore : GoodIn wsX8_cheapest wsX5_cheapestCore := goodIn_r _ [14, 15, 16, 17, 18, 19, 20, 21, 22, 23, 24, 25, 26, 27, 28, 29, 30, 31, 32, 33, 34, 35, 36, 37, 12, 38, 39, 40, 41, 42, 43, 44, 45, 46, 47, 48, 49, 50, 57, 58, 59, 60, 61, 62, 63, 64, 65, 66, 67, 68, 69, 70, 71] (by decide +kernel) (by decide +kernel)
set_option maxRecDepth 20000 in
theorem gX8_cheapest_X5_cheapestCore_n264 : GoodIn wsX8_cheapest (wsX5_cheapestCore) := ggX8_cheapest_X5_cheapestCore
theorem dX8_cheapest_0 : decode cX8_cheapest 0 = .ok (.iload_n 1, 1) := by decide +kernel
theorem dX8_cheapest_1 : decode cX8_cheapest 1 = .ok (.invokestatic 178, 3) := by decide +kernel
theorem dX8_cheapest_4 : decode cX8_cheapest 4 = .ok (.ifCond .eq 10, 3) := by decide +kernel
theorem dX8_cheapest_7 : decode cX8_cheapest 7 = .ok (.iload_n 2, 1) := by decide +kernel
theorem dX8_cheapest_8 : decode cX8_cheapest 8 = .ok (.invokestatic 201, 3) := by decide +kernel
theorem dX8_cheapest_11 : decode cX8_cheapest 11 = .ok (.ifCond .ne 11, 3) := by decide +kernel
theorem dX8_cheapest_14 : decode cX8_cheapest 14 = .ok (.new 156, 3) := by decide +kernel
theorem dX8_cheapest_17 : decode cX8_cheapest 17 = .ok (.dup, 1) := by decide +kernel
theorem dX8_cheapest_18 : decode cX8_cheapest 18 = .ok (.invokespecial 158, 3) := by decide +kernel
theorem dX8_cheapest_21 : decode cX8_cheapest 21 = .ok (.athrow, 1) := by decide +kernel
theorem dX8_cheapest_22 : decode cX8_cheapest 22 = .ok (.aload_n 0, 1) := by decide +kernel
theorem dX8_cheapest_23 : decode cX8_cheapest 23 = .ok (.getfield 19, 3) := by decide +kernel
theorem dX8_cheapest_26 : decode cX8_cheapest 26 = .ok (.iload_n 1, 1) := by decide +kernel
theorem dX8_cheapest_27 : decode cX8_cheapest 27 = .ok (.iload_n 2, 1) := by decide +kernel
theorem dX8_cheapest_28 : decode cX8_cheapest 28 = .ok (.invokevirtual 264, 3) := by decide +kernel
theorem dX8_cheapest_31 : decode cX8_cheapest 31 = .ok (.ireturn, 1) := by decide +kernel
set_option maxRecDepth 20000 in
theorem ggX8_inDebt_X5_accountWhenAllIsSettled : GoodIn wsX8_inDebt wsX5_accountWhenAllIsSettled := goodIn_r _ [5, 6, 7, 8, 9, 10, 11, 12, 13, 14, 15, 16, 17, 18, 19, 20, 21, 22, 23, 24, 25, 26, 3, 27, 28, 29, 30, 31, 32, 33, 34, 35, 36, 37, 38, 39, 40, 41, 42, 43, 44, 45, 46, 47, 48, 49, 50, 51, 52, 59, 60, 61, 62, 63, 64, 65, 66, 67, 68, 69, 70, 71, 72, 73, 74] (by decide +kernel) (by decide +kernel)
set_option maxRecDepth 20000 in
theorem gX8_inDebt_X5_accountWhenAllIsSettled_n267 : GoodIn wsX8_inDebt (wsX5_accountWhenAllIsSettled) := ggX8_inDebt_X5_accountWhenAllIsSettled
theorem dX8_inDebt_0 : decode cX8_inDebt 0 = .ok (.iconst 0, 1) := by decide +kernel
theorem dX8_inDebt_1 : decode cX8_inDebt 1 = .ok (.istore_n 1, 1) := by decide +kernel
theorem dX8_inDebt_2 : decode cX8_inDebt 2 = .ok (.iconst 0, 1) := by decide +kernel
theorem dX8_inDebt_3 : decode cX8_inDebt 3 = .ok (.istore_n 2, 1) := by decide +kernel
theorem dX8_inDebt_4 : decode cX8_inDebt 4 = .ok (.iload_n 2, 1) := by decide +kernel
theorem dX8_inDebt_5 : decode cX8_inDebt 5 = .ok (.iconst 5, 1) := by decide +kernel
theorem dX8_inDebt_6 : decode cX8_inDebt 6 = .ok (.if_icmp .ge 26, 3) := by decide +kernel
theorem dX8_inDebt_9 : decode cX8_inDebt 9 = .ok (.aload_n 0, 1) := by decide +kernel
theorem dX8_inDebt_10 : decode cX8_inDebt 10 = .ok (.getfield 19, 3) := by decide +kernel
theorem dX8_inDebt_13 : decode cX8_inDebt 13 = .ok (.iload_n 2, 1) := by decide +kernel
theorem dX8_inDebt_14 : decode cX8_inDebt 14 = .ok (.invokevirtual 267, 3) := by decide +kernel
theorem dX8_inDebt_17 : decode cX8_inDebt 17 = .ok (.ifCond .ge 9, 3) := by decide +kernel
theorem dX8_inDebt_20 : decode cX8_inDebt 20 = .ok (.iload_n 1, 1) := by decide +kernel
theorem dX8_inDebt_21 : decode cX8_inDebt 21 = .ok (.iconst 1, 1) := by decide +kernel
theorem dX8_inDebt_22 : decode cX8_inDebt 22 = .ok (.iload_n 2, 1) := by decide +kernel
theorem dX8_inDebt_23 : decode cX8_inDebt 23 = .ok (.ishl, 1) := by decide +kernel
theorem dX8_inDebt_24 : decode cX8_inDebt 24 = .ok (.ior, 1) := by decide +kernel
theorem dX8_inDebt_25 : decode cX8_inDebt 25 = .ok (.istore_n 1, 1) := by decide +kernel
theorem dX8_inDebt_26 : decode cX8_inDebt 26 = .ok (.iinc 2 1, 3) := by decide +kernel
theorem dX8_inDebt_29 : decode cX8_inDebt 29 = .ok (.goto (-25), 3) := by decide +kernel
theorem dX8_inDebt_32 : decode cX8_inDebt 32 = .ok (.iload_n 1, 1) := by decide +kernel
theorem dX8_inDebt_33 : decode cX8_inDebt 33 = .ok (.ireturn, 1) := by decide +kernel
set_option maxRecDepth 20000 in
theorem ggX8_runScript_X3_limit : GoodIn wsX8_runScript wsX3_limit := goodIn_r _ [7, 8] (by decide +kernel) (by decide +kernel)
set_option maxRecDepth 20000 in
theorem gX8_runScript_X3_limit_n270 : GoodIn wsX8_runScript (wsX3_limit) := ggX8_runScript_X3_limit
set_option maxRecDepth 20000 in
theorem ggX8_runScript_X5_copyFrom : GoodIn wsX8_runScript wsX5_copyFrom := goodIn_r _ [12, 13, 14, 15, 16, 17, 18, 19, 20, 21, 22, 23, 24, 25, 26, 27, 28, 29, 30, 31, 32, 33, 34, 35, 36, 37, 38, 39, 40, 41, 42, 43, 44, 45, 46, 47, 48, 49, 50, 164, 165, 166, 167, 168, 169, 170, 171, 172, 173, 174, 175, 176, 177, 178, 179, 180, 181, 182] (by decide +kernel) (by decide +kernel)
set_option maxRecDepth 20000 in
theorem gX8_runScript_X5_copyFrom_n276 : GoodIn wsX8_runScript (wsX5_copyFrom) := ggX8_runScript_X5_copyFrom
set_option maxRecDepth 20000 in
theorem ggX8_runScript_X3_group : GoodIn wsX8_runScript wsX3_group := goodIn_r _ [52, 8] (by decide +kernel) (by decide +kernel)
set_option maxRecDepth 20000 in
theorem gX8_runScript_X3_group_n279 : GoodIn wsX8_runScript (wsX3_group) := ggX8_runScript_X3_group
set_option maxRecDepth 20000 in
theorem ggX8_runScript_X3_succeeds : GoodIn wsX8_runScript wsX3_succeeds := goodIn_r _ [54, 55, 56, 10, 57, 58, 13, 22, 59, 27, 60, 61, 36, 62, 63, 64, 65, 66, 67, 68, 69, 33, 32, 70, 71, 72, 73, 74, 75, 76, 77, 78, 79, 80, 81, 21, 82, 83, 84, 85, 86, 87, 88, 89, 16, 25, 90, 91, 92, 35, 93, 94, 95, 24, 96, 97, 98, 99, 100, 101, 102, 103, 104, 105, 106, 34, 107, 108, 109, 110, 111, 112, 113, 114, 115, 116, 117, 118, 119, 120, 121, 122, 123, 23, 15, 124, 125, 126, 127, 128, 30, 129, 130, 131, 132, 46, 133, 134, 49, 135, 136, 137, 138, 139, 140, 141, 142, 143, 144, 145, 146, 147, 148, 149, 150, 6, 151, 152, 153, 154, 155, 156, 157, 164, 165, 166, 167, 168, 169, 170, 171, 172, 173, 174, 175, 176, 177, 178, 182] (by decide +kernel) (by decide +kernel)
set_option maxRecDepth 20000 in
theorem gX8_runScript_X3_succeeds_n283 : GoodIn wsX8_runScript (wsX3_succeeds) := ggX8_runScript_X3_succeeds
theorem dX8_runScript_0 : decode cX8_runScript 0 = .ok (.iload_n 1, 1) := by decide +kernel
theorem dX8_runScript_1 : decode cX8_runScript 1 = .ok (.iconst 1, 1) := by decide +kernel
theorem dX8_runScript_2 : decode cX8_runScript 2 = .ok (.if_icmp .lt 23, 3) := by decide +kernel
theorem dX8_runScript_5 : decode cX8_runScript 5 = .ok (.iload_n 1, 1) := by decide +kernel
theorem dX8_runScript_6 : decode cX8_runScript 6 = .ok (.iconst 3, 1) := by decide +kernel
theorem dX8_runScript_7 : decode cX8_runScript 7 = .ok (.if_icmp .gt 18, 3) := by decide +kernel
theorem dX8_runScript_10 : decode cX8_runScript 10 = .ok (.lload_n 2, 1) := by decide +kernel
theorem dX8_runScript_11 : decode cX8_runScript 11 = .ok (.lconst 0, 1) := by decide +kernel
theorem dX8_runScript_12 : decode cX8_runScript 12 = .ok (.lcmp, 1) := by decide +kernel
theorem dX8_runScript_13 : decode cX8_runScript 13 = .ok (.ifCond .lt 12, 3) := by decide +kernel
theorem dX8_runScript_16 : decode cX8_runScript 16 = .ok (.lload_n 2, 1) := by decide +kernel
theorem dX8_runScript_17 : decode cX8_runScript 17 = .ok (.iload_n 1, 1) := by decide +kernel
theorem dX8_runScript_18 : decode cX8_runScript 18 = .ok (.invokestatic 270, 3) := by decide +kernel
theorem dX8_runScript_21 : decode cX8_runScript 21 = .ok (.lcmp, 1) := by decide +kernel
theorem dX8_runScript_22 : decode cX8_runScript 22 = .ok (.ifCond .lt 11, 3) := by decide +kernel
theorem dX8_runScript_25 : decode cX8_runScript 25 = .ok (.new 41, 3) := by decide +kernel
theorem dX8_runScript_28 : decode cX8_runScript 28 = .ok (.dup, 1) := by decide +kernel
theorem dX8_runScript_29 : decode cX8_runScript 29 = .ok (.invokespecial 43, 3) := by decide +kernel
theorem dX8_runScript_32 : decode cX8_runScript 32 = .ok (.athrow, 1) := by decide +kernel
theorem dX8_runScript_33 : decode cX8_runScript 33 = .ok (.aload_n 0, 1) := by decide +kernel
theorem dX8_runScript_34 : decode cX8_runScript 34 = .ok (.getfield 23, 3) := by decide +kernel
theorem dX8_runScript_37 : decode cX8_runScript 37 = .ok (.aload_n 0, 1) := by decide +kernel
theorem dX8_runScript_38 : decode cX8_runScript 38 = .ok (.getfield 19, 3) := by decide +kernel
theorem dX8_runScript_41 : decode cX8_runScript 41 = .ok (.invokevirtual 276, 3) := by decide +kernel
theorem dX8_runScript_44 : decode cX8_runScript 44 = .ok (.iconst 0, 1) := by decide +kernel
theorem dX8_runScript_45 : decode cX8_runScript 45 = .ok (.istore 4, 2) := by decide +kernel
theorem dX8_runScript_47 : decode cX8_runScript 47 = .ok (.iload 4, 2) := by decide +kernel
theorem dX8_runScript_49 : decode cX8_runScript 49 = .ok (.iload_n 1, 1) := by decide +kernel
theorem dX8_runScript_50 : decode cX8_runScript 50 = .ok (.if_icmp .ge 32, 3) := by decide +kernel
theorem dX8_runScript_53 : decode cX8_runScript 53 = .ok (.aload_n 0, 1) := by decide +kernel
theorem dX8_runScript_54 : decode cX8_runScript 54 = .ok (.getfield 23, 3) := by decide +kernel
theorem dX8_runScript_57 : decode cX8_runScript 57 = .ok (.lload_n 2, 1) := by decide +kernel
theorem dX8_runScript_58 : decode cX8_runScript 58 = .ok (.iload_n 1, 1) := by decide +kernel
theorem dX8_runScript_59 : decode cX8_runScript 59 = .ok (.iconst 1, 1) := by decide +kernel
theorem dX8_runScript_60 : decode cX8_runScript 60 = .ok (.isub, 1) := by decide +kernel
theorem dX8_runScript_61 : decode cX8_runScript 61 = .ok (.iload 4, 2) := by decide +kernel
theorem dX8_runScript_63 : decode cX8_runScript 63 = .ok (.isub, 1) := by decide +kernel
theorem dX8_runScript_64 : decode cX8_runScript 64 = .ok (.invokestatic 279, 3) := by decide +kernel
theorem dX8_runScript_67 : decode cX8_runScript 67 = .ok (.invokestatic 283, 3) := by decide +kernel
theorem dX8_runScript_70 : decode cX8_runScript 70 = .ok (.ifCond .ne 6, 3) := by decide +kernel
theorem dX8_runScript_73 : decode cX8_runScript 73 = .ok (.iload 4, 2) := by decide +kernel
theorem dX8_runScript_75 : decode cX8_runScript 75 = .ok (.ireturn, 1) := by decide +kernel
theorem dX8_runScript_76 : decode cX8_runScript 76 = .ok (.iinc 4 1, 3) := by decide +kernel
theorem dX8_runScript_79 : decode cX8_runScript 79 = .ok (.goto (-32), 3) := by decide +kernel
theorem dX8_runScript_82 : decode cX8_runScript 82 = .ok (.iconst (-1), 1) := by decide +kernel
theorem dX8_runScript_83 : decode cX8_runScript 83 = .ok (.ireturn, 1) := by decide +kernel
set_option maxRecDepth 20000 in
theorem ggX8_simulate_X5_copyFrom : GoodIn wsX8_simulate wsX5_copyFrom := goodIn_r _ [10, 11, 12, 13, 14, 15, 16, 17, 18, 19, 20, 21, 22, 23, 24, 25, 26, 27, 28, 29, 30, 31, 32, 33, 34, 35, 36, 37, 38, 39, 40, 41, 42, 43, 44, 45, 46, 47, 48, 213, 214, 215, 216, 217, 218, 219, 220, 221, 222, 223, 224, 225, 226, 227, 228, 229, 230, 231] (by decide +kernel) (by decide +kernel)
set_option maxRecDepth 20000 in
theorem gX8_simulate_X5_copyFrom_n276 : GoodIn wsX8_simulate (wsX5_copyFrom) := ggX8_simulate_X5_copyFrom
set_option maxRecDepth 20000 in
theorem ggX8_simulate_X4_turn : GoodIn wsX8_simulate wsX4_turn := goodIn_r _ [51, 52, 53, 54, 55, 56, 57, 8, 58, 59, 11, 60, 61, 62, 63, 64, 65, 25, 66, 67, 34, 28, 32, 68, 69, 70, 71, 30, 31, 33, 72, 73, 74, 75, 76, 77, 78, 20, 79, 80, 81, 82, 83, 84, 85, 86, 87, 88, 89, 90, 91, 92, 93, 94, 19, 95, 96, 97, 98, 99, 14, 23, 100, 101, 102, 22, 103, 104, 105, 106, 107, 108, 109, 110, 111, 112, 113, 114, 115, 116, 117, 118, 119, 120, 121, 122, 123, 124, 125, 126, 127, 128, 129, 130, 12, 131, 36, 132, 133, 42, 134, 135, 136, 39, 41, 137, 138, 139, 140, 141, 142, 143, 144, 145, 146, 147, 148, 149, 150, 151, 152, 153, 154, 155, 156, 157, 158, 159, 160, 21, 13, 161, 162, 163, 164, 165, 166, 167, 168, 169, 44, 170, 171, 47, 172, 173, 174, 175, 176, 177, 178, 179, 180, 181, 182, 183, 184, 185, 186, 187, 188, 189, 213, 214, 215, 216, 217, 218, 219, 220, 221, 222, 223, 224, 225, 226, 227, 228, 229, 230, 231] (by decide +kernel) (by decide +kernel)
set_option maxRecDepth 20000 in
theorem gX8_simulate_X4_turn_n291 : GoodIn wsX8_simulate (wsX4_turn) := ggX8_simulate_X4_turn
set_option maxRecDepth 20000 in
theorem ggX8_simulate_X7_usableOnes : GoodIn wsX8_simulate wsX7_usableOnes := goodIn_r _ [192, 34, 110, 111, 112, 25, 113, 32, 72, 73, 74, 75, 222, 223, 224, 225, 226, 227] (by decide +kernel) (by decide +kernel)
set_option maxRecDepth 20000 in
theorem gX8_simulate_X7_usableOnes_n118 : GoodIn wsX8_simulate (wsX7_usableOnes) := ggX8_simulate_X7_usableOnes
set_option maxRecDepth 20000 in
theorem ggX8_simulate_X0_all : GoodIn wsX8_simulate wsX0_all := goodIn_r _ [195, 42, 228, 229, 230] (by decide +kernel) (by decide +kernel)
set_option maxRecDepth 20000 in
theorem gX8_simulate_X0_all_n131 : GoodIn wsX8_simulate (wsX0_all) := ggX8_simulate_X0_all
set_option maxRecDepth 20000 in
theorem ggX8_simulate_X1_all : GoodIn wsX8_simulate wsX1_all := goodIn_r _ [198, 199, 200, 201, 44, 202, 203, 204, 205, 206, 47, 63, 61, 64, 231] (by decide +kernel) (by decide +kernel)
set_option maxRecDepth 20000 in
theorem gX8_simulate_X1_all_n140 : GoodIn wsX8_simulate (wsX1_all) := ggX8_simulate_X1_all
theorem dX8_simulate_0 : decode cX8_simulate 0 = .ok (.iload_n 3, 1) := by decide +kernel
theorem dX8_simulate_1 : decode cX8_simulate 1 = .ok (.iconst 1, 1) := by decide +kernel
theorem dX8_simulate_2 : decode cX8_simulate 2 = .ok (.if_icmp .lt 9, 3) := by decide +kernel
theorem dX8_simulate_5 : decode cX8_simulate 5 = .ok (.iload_n 3, 1) := by decide +kernel
theorem dX8_simulate_6 : decode cX8_simulate 6 = .ok (.bipush 99, 2) := by decide +kernel
theorem dX8_simulate_8 : decode cX8_simulate 8 = .ok (.if_icmp .le 11, 3) := by decide +kernel
theorem dX8_simulate_11 : decode cX8_simulate 11 = .ok (.new 41, 3) := by decide +kernel
theorem dX8_simulate_14 : decode cX8_simulate 14 = .ok (.dup, 1) := by decide +kernel
theorem dX8_simulate_15 : decode cX8_simulate 15 = .ok (.invokespecial 43, 3) := by decide +kernel
theorem dX8_simulate_18 : decode cX8_simulate 18 = .ok (.athrow, 1) := by decide +kernel
theorem dX8_simulate_19 : decode cX8_simulate 19 = .ok (.aload_n 0, 1) := by decide +kernel
theorem dX8_simulate_20 : decode cX8_simulate 20 = .ok (.getfield 23, 3) := by decide +kernel
theorem dX8_simulate_23 : decode cX8_simulate 23 = .ok (.aload_n 0, 1) := by decide +kernel
theorem dX8_simulate_24 : decode cX8_simulate 24 = .ok (.getfield 19, 3) := by decide +kernel
theorem dX8_simulate_27 : decode cX8_simulate 27 = .ok (.invokevirtual 276, 3) := by decide +kernel
theorem dX8_simulate_30 : decode cX8_simulate 30 = .ok (.lload_n 1, 1) := by decide +kernel
theorem dX8_simulate_31 : decode cX8_simulate 31 = .ok (.lstore 4, 2) := by decide +kernel
theorem dX8_simulate_33 : decode cX8_simulate 33 = .ok (.iconst 0, 1) := by decide +kernel
theorem dX8_simulate_34 : decode cX8_simulate 34 = .ok (.istore 6, 2) := by decide +kernel
theorem dX8_simulate_36 : decode cX8_simulate 36 = .ok (.iload 6, 2) := by decide +kernel
theorem dX8_simulate_38 : decode cX8_simulate 38 = .ok (.iload_n 3, 1) := by decide +kernel
theorem dX8_simulate_39 : decode cX8_simulate 39 = .ok (.if_icmp .ge 35, 3) := by decide +kernel
theorem dX8_simulate_42 : decode cX8_simulate 42 = .ok (.lload 4, 2) := by decide +kernel
theorem dX8_simulate_44 : decode cX8_simulate 44 = .ok (.ldc2_w 287, 3) := by decide +kernel
theorem dX8_simulate_47 : decode cX8_simulate 47 = .ok (.lmul, 1) := by decide +kernel
theorem dX8_simulate_48 : decode cX8_simulate 48 = .ok (.ldc2_w 289, 3) := by decide +kernel
theorem dX8_simulate_51 : decode cX8_simulate 51 = .ok (.ladd, 1) := by decide +kernel
theorem dX8_simulate_52 : decode cX8_simulate 52 = .ok (.lstore 4, 2) := by decide +kernel
theorem dX8_simulate_54 : decode cX8_simulate 54 = .ok (.aload_n 0, 1) := by decide +kernel
theorem dX8_simulate_55 : decode cX8_simulate 55 = .ok (.getfield 23, 3) := by decide +kernel
theorem dX8_simulate_58 : decode cX8_simulate 58 = .ok (.lload 4, 2) := by decide +kernel
theorem dX8_simulate_60 : decode cX8_simulate 60 = .ok (.bipush 33, 2) := by decide +kernel
theorem dX8_simulate_62 : decode cX8_simulate 62 = .ok (.lushr, 1) := by decide +kernel
theorem dX8_simulate_63 : decode cX8_simulate 63 = .ok (.l2i, 1) := by decide +kernel
theorem dX8_simulate_64 : decode cX8_simulate 64 = .ok (.invokestatic 291, 3) := by decide +kernel
theorem dX8_simulate_67 : decode cX8_simulate 67 = .ok (.pop, 1) := by decide +kernel
theorem dX8_simulate_68 : decode cX8_simulate 68 = .ok (.iinc 6 1, 3) := by decide +kernel
theorem dX8_simulate_71 : decode cX8_simulate 71 = .ok (.goto (-35), 3) := by decide +kernel
theorem dX8_simulate_74 : decode cX8_simulate 74 = .ok (.sipush 1000, 3) := by decide +kernel
theorem dX8_simulate_77 : decode cX8_simulate 77 = .ok (.aload_n 0, 1) := by decide +kernel
theorem dX8_simulate_78 : decode cX8_simulate 78 = .ok (.getfield 23, 3) := by decide +kernel
theorem dX8_simulate_81 : decode cX8_simulate 81 = .ok (.getfield 109, 3) := by decide +kernel
theorem dX8_simulate_84 : decode cX8_simulate 84 = .ok (.invokevirtual 118, 3) := by decide +kernel
theorem dX8_simulate_87 : decode cX8_simulate 87 = .ok (.imul, 1) := by decide +kernel
theorem dX8_simulate_88 : decode cX8_simulate 88 = .ok (.bipush 100, 2) := by decide +kernel
theorem dX8_simulate_90 : decode cX8_simulate 90 = .ok (.aload_n 0, 1) := by decide +kernel
theorem dX8_simulate_91 : decode cX8_simulate 91 = .ok (.getfield 23, 3) := by decide +kernel
theorem dX8_simulate_94 : decode cX8_simulate 94 = .ok (.getfield 127, 3) := by decide +kernel
theorem dX8_simulate_97 : decode cX8_simulate 97 = .ok (.invokevirtual 131, 3) := by decide +kernel
theorem dX8_simulate_100 : decode cX8_simulate 100 = .ok (.imul, 1) := by decide +kernel
theorem dX8_simulate_101 : decode cX8_simulate 101 = .ok (.iadd, 1) := by decide +kernel
theorem dX8_simulate_102 : decode cX8_simulate 102 = .ok (.aload_n 0, 1) := by decide +kernel
theorem dX8_simulate_103 : decode cX8_simulate 103 = .ok (.getfield 23, 3) := by decide +kernel
theorem dX8_simulate_106 : decode cX8_simulate 106 = .ok (.getfield 136, 3) := by decide +kernel
theorem dX8_simulate_109 : decode cX8_simulate 109 = .ok (.invokevirtual 140, 3) := by decide +kernel
theorem dX8_simulate_112 : decode cX8_simulate 112 = .ok (.iadd, 1) := by decide +kernel
theorem dX8_simulate_113 : decode cX8_simulate 113 = .ok (.ireturn, 1) := by decide +kernel
set_option maxRecDepth 20000 in
theorem ggX8_save_X8_isSlot : GoodIn wsX8_save wsX8_isSlot := goodIn_r _ [9] (by decide +kernel) (by decide +kernel)
set_option maxRecDepth 20000 in
theorem gX8_save_X8_isSlot : GoodIn wsX8_save (va_wsS RX8 297 yX8_isSlot wsX8_isSlot) := goodIn_app (goodIn_of _ (by decide +kernel)) ggX8_save_X8_isSlot
set_option maxRecDepth 20000 in
theorem ggX8_save_X5_copyFrom : GoodIn wsX8_save wsX5_copyFrom := goodIn_r _ [13, 14, 15, 16, 17, 18, 19, 20, 21, 22, 23, 24, 25, 26, 27, 28, 29, 30, 31, 32, 33, 34, 35, 36, 37, 38, 39, 40, 41, 42, 43, 44, 45, 46, 47, 48, 49, 50, 51, 58, 59, 60, 61, 62, 63, 64, 65, 66, 67, 68, 69, 70, 71, 72, 73, 74, 75, 76] (by decide +kernel) (by decide +kernel)
set_option maxRecDepth 20000 in
theorem gX8_save_X5_copyFrom_n276 : GoodIn wsX8_save (wsX5_copyFrom) := ggX8_save_X5_copyFrom
theorem dX8_save_0 : decode cX8_save 0 = .ok (.iload_n 1, 1) := by decide +kernel
theorem dX8_save_1 : decode cX8_save 1 = .ok (.invokestatic 297, 3) := by decide +kernel
theorem dX8_save_4 : decode cX8_save 4 = .ok (.ifCond .ne 11, 3) := by decide +kernel
theorem dX8_save_7 : decode cX8_save 7 = .ok (.new 156, 3) := by decide +kernel
theorem dX8_save_10 : decode cX8_save 10 = .ok (.dup, 1) := by decide +kernel
theorem dX8_save_11 : decode cX8_save 11 = .ok (.invokespecial 158, 3) := by decide +kernel
theorem dX8_save_14 : decode cX8_save 14 = .ok (.athrow, 1) := by decide +kernel
theorem dX8_save_15 : decode cX8_save 15 = .ok (.aload_n 0, 1) := by decide +kernel
theorem dX8_save_16 : decode cX8_save 16 = .ok (.getfield 33, 3) := by decide +kernel
theorem dX8_save_19 : decode cX8_save 19 = .ok (.iload_n 1, 1) := by decide +kernel
theorem dX8_save_20 : decode cX8_save 20 = .ok (.aaload, 1) := by decide +kernel
theorem dX8_save_21 : decode cX8_save 21 = .ok (.aload_n 0, 1) := by decide +kernel
theorem dX8_save_22 : decode cX8_save 22 = .ok (.getfield 19, 3) := by decide +kernel
theorem dX8_save_25 : decode cX8_save 25 = .ok (.invokevirtual 276, 3) := by decide +kernel
theorem dX8_save_28 : decode cX8_save 28 = .ok (.aload_n 0, 1) := by decide +kernel
theorem dX8_save_29 : decode cX8_save 29 = .ok (.getfield 37, 3) := by decide +kernel
theorem dX8_save_32 : decode cX8_save 32 = .ok (.iload_n 1, 1) := by decide +kernel
theorem dX8_save_33 : decode cX8_save 33 = .ok (.iconst 1, 1) := by decide +kernel
theorem dX8_save_34 : decode cX8_save 34 = .ok (.bastore, 1) := by decide +kernel
theorem dX8_save_35 : decode cX8_save 35 = .ok (.aload_n 0, 1) := by decide +kernel
theorem dX8_save_36 : decode cX8_save 36 = .ok (.getfield 19, 3) := by decide +kernel
theorem dX8_save_39 : decode cX8_save 39 = .ok (.getfield 109, 3) := by decide +kernel
theorem dX8_save_42 : decode cX8_save 42 = .ok (.getfield 113, 3) := by decide +kernel
theorem dX8_save_45 : decode cX8_save 45 = .ok (.ireturn, 1) := by decide +kernel
set_option maxRecDepth 20000 in
theorem ggX8_restore_X8_isSlot : GoodIn wsX8_restore wsX8_isSlot := goodIn_r _ [12] (by decide +kernel) (by decide +kernel)
set_option maxRecDepth 20000 in
theorem gX8_restore_X8_isSlot : GoodIn wsX8_restore (va_wsS RX8 297 yX8_isSlot wsX8_isSlot) := goodIn_app (goodIn_of _ (by decide +kernel)) ggX8_restore_X8_isSlot
set_option maxRecDepth 20000 in
theorem ggX8_restore_X5_copyFrom : GoodIn wsX8_restore wsX5_copyFrom := goodIn_r _ [16, 17, 18, 19, 20, 21, 22, 23, 24, 25, 26, 27, 28, 29, 30, 31, 32, 33, 34, 35, 36, 37, 38, 39, 40, 41, 42, 43, 44, 45, 46, 47, 48, 49, 50, 51, 52, 53, 54, 66, 67, 68, 69, 70, 71, 72, 73, 74, 75, 76, 77, 78, 79, 80, 81, 82, 83, 84] (by decide +kernel) (by decide +kernel)
set_option maxRecDepth 20000 in
theorem gX8_restore_X5_copyFrom_n276 : GoodIn wsX8_restore (wsX5_copyFrom) := ggX8_restore_X5_copyFrom
set_option maxRecDepth 20000 in
theorem ggX8_restore_X2_forgetAll : GoodIn wsX8_restore wsX2_forgetAll := goodIn_r _ [58, 59, 85, 86, 87] (by decide +kernel) (by decide +kernel)
set_option maxRecDepth 20000 in
theorem gX8_restore_X2_forgetAll_n62 : GoodIn wsX8_restore (wsX2_forgetAll) := ggX8_restore_X2_forgetAll
theorem dX8_restore_0 : decode cX8_restore 0 = .ok (.iload_n 1, 1) := by decide +kernel
theorem dX8_restore_1 : decode cX8_restore 1 = .ok (.invokestatic 297, 3) := by decide +kernel
theorem dX8_restore_4 : decode cX8_restore 4 = .ok (.ifCond .ne 11, 3) := by decide +kernel
theorem dX8_restore_7 : decode cX8_restore 7 = .ok (.new 156, 3) := by decide +kernel
theorem dX8_restore_10 : decode cX8_restore 10 = .ok (.dup, 1) := by decide +kernel
theorem dX8_restore_11 : decode cX8_restore 11 = .ok (.invokespecial 158, 3) := by decide +kernel
theorem dX8_restore_14 : decode cX8_restore 14 = .ok (.athrow, 1) := by decide +kernel
theorem dX8_restore_15 : decode cX8_restore 15 = .ok (.aload_n 0, 1) := by decide +kernel
theorem dX8_restore_16 : decode cX8_restore 16 = .ok (.getfield 37, 3) := by decide +kernel
theorem dX8_restore_19 : decode cX8_restore 19 = .ok (.iload_n 1, 1) := by decide +kernel
theorem dX8_restore_20 : decode cX8_restore 20 = .ok (.baload, 1) := by decide +kernel
theorem dX8_restore_21 : decode cX8_restore 21 = .ok (.ifCond .ne 11, 3) := by decide +kernel
theorem dX8_restore_24 : decode cX8_restore 24 = .ok (.new 48, 3) := by decide +kernel
theorem dX8_restore_27 : decode cX8_restore 27 = .ok (.dup, 1) := by decide +kernel
theorem dX8_restore_28 : decode cX8_restore 28 = .ok (.invokespecial 50, 3) := by decide +kernel
theorem dX8_restore_31 : decode cX8_restore 31 = .ok (.athrow, 1) := by decide +kernel
theorem dX8_restore_32 : decode cX8_restore 32 = .ok (.aload_n 0, 1) := by decide +kernel
theorem dX8_restore_33 : decode cX8_restore 33 = .ok (.getfield 19, 3) := by decide +kernel
theorem dX8_restore_36 : decode cX8_restore 36 = .ok (.aload_n 0, 1) := by decide +kernel
theorem dX8_restore_37 : decode cX8_restore 37 = .ok (.getfield 33, 3) := by decide +kernel
theorem dX8_restore_40 : decode cX8_restore 40 = .ok (.iload_n 1, 1) := by decide +kernel
theorem dX8_restore_41 : decode cX8_restore 41 = .ok (.aaload, 1) := by decide +kernel
theorem dX8_restore_42 : decode cX8_restore 42 = .ok (.invokevirtual 276, 3) := by decide +kernel
theorem dX8_restore_45 : decode cX8_restore 45 = .ok (.aload_n 0, 1) := by decide +kernel
theorem dX8_restore_46 : decode cX8_restore 46 = .ok (.getfield 29, 3) := by decide +kernel
theorem dX8_restore_49 : decode cX8_restore 49 = .ok (.invokevirtual 62, 3) := by decide +kernel
theorem dX8_restore_52 : decode cX8_restore 52 = .ok (.aload_n 0, 1) := by decide +kernel
theorem dX8_restore_53 : decode cX8_restore 53 = .ok (.getfield 19, 3) := by decide +kernel
theorem dX8_restore_56 : decode cX8_restore 56 = .ok (.getfield 109, 3) := by decide +kernel
theorem dX8_restore_59 : decode cX8_restore 59 = .ok (.getfield 113, 3) := by decide +kernel
theorem dX8_restore_62 : decode cX8_restore 62 = .ok (.ireturn, 1) := by decide +kernel
