set_option maxRecDepth 20000 in
theorem ggL_append_X8_append : GoodIn wsL_append wsX8_append := goodIn_ca (goodIn_ca (goodIn_r _ [7, 8, 9, 10, 11, 12, 13, 14, 15, 16, 17, 18, 19, 20, 21, 22, 23, 24, 25, 26, 27, 28, 29, 30, 31] (by decide +kernel) (by decide +kernel)) (goodIn_sub (fun _ h => List.mem_cons_of_mem _ (List.mem_append_left _ (List.mem_append_right _ h))) (by decide +kernel))) (goodIn_sub (fun _ h => List.mem_cons_of_mem _ (List.mem_append_right _ h)) (by decide +kernel))
set_option maxRecDepth 20000 in
theorem gL_append_X8_append : GoodIn wsL_append (wsV RL 7 RX8 yX8_append wsX8_append) := goodIn_app (goodIn_of _ (by decide +kernel)) ggL_append_X8_append
theorem dL_append_0 : decode cL_append 0 = .ok (.aload_n 2, 1) := by decide +kernel
theorem dL_append_1 : decode cL_append 1 = .ok (.iconst 0, 1) := by decide +kernel
theorem dL_append_2 : decode cL_append 2 = .ok (.aload_n 0, 1) := by decide +kernel
theorem dL_append_3 : decode cL_append 3 = .ok (.iload_n 1, 1) := by decide +kernel
theorem dL_append_4 : decode cL_append 4 = .ok (.invokevirtual 7, 3) := by decide +kernel
theorem dL_append_7 : decode cL_append 7 = .ok (.i2l, 1) := by decide +kernel
theorem dL_append_8 : decode cL_append 8 = .ok (.lastore, 1) := by decide +kernel
theorem dL_append_9 : decode cL_append 9 = .ok (.goto 9, 3) := by decide +kernel
theorem dL_append_12 : decode cL_append 12 = .ok (.astore_n 3, 1) := by decide +kernel
theorem dL_append_13 : decode cL_append 13 = .ok (.iconst 1, 1) := by decide +kernel
theorem dL_append_14 : decode cL_append 14 = .ok (.ireturn, 1) := by decide +kernel
theorem dL_append_15 : decode cL_append 15 = .ok (.astore_n 3, 1) := by decide +kernel
theorem dL_append_16 : decode cL_append 16 = .ok (.iconst 2, 1) := by decide +kernel
theorem dL_append_17 : decode cL_append 17 = .ok (.ireturn, 1) := by decide +kernel
theorem dL_append_18 : decode cL_append 18 = .ok (.iconst 0, 1) := by decide +kernel
theorem dL_append_19 : decode cL_append 19 = .ok (.ireturn, 1) := by decide +kernel
set_option maxRecDepth 20000 in
theorem ggL_load_X8_load : GoodIn wsL_load wsX8_load := goodIn_ca (goodIn_r _ [6, 7, 8, 9, 10, 11, 12, 13, 14, 15, 16, 17, 18, 19, 20, 21, 22, 23, 24, 25, 26, 27, 28, 29, 30, 31, 32, 33, 34, 35, 36, 37, 38, 39, 40, 41, 42, 43, 44, 45, 46, 47, 48, 49, 50, 51, 52, 53, 54, 55, 56, 57, 58, 59, 60, 61, 62, 63, 64, 65, 66, 67, 68, 69, 70, 71, 72, 73, 74, 75, 76, 77, 78, 79, 80, 81, 82, 83, 84, 85, 86, 87, 88, 89, 90, 91, 92, 93, 94, 95, 96, 97, 98, 99, 100, 101, 102, 103, 104, 105, 106, 107, 108, 109, 110, 111, 112, 113, 114, 115, 116, 117, 118, 119, 120, 121, 122, 123, 124, 125, 126, 127, 128, 129, 130, 131, 132, 133, 134, 135, 5, 136, 137, 138, 139, 140, 141, 142, 143, 144, 145, 146, 147, 148, 149, 150, 151, 152, 153, 154, 155, 156, 157, 158, 159, 160, 161, 162, 163, 164, 165, 166, 167, 168, 169, 170, 171, 172, 173, 174, 175, 176, 177, 178, 179, 180, 181, 182, 183, 184, 185, 186, 187, 188, 189, 190, 191, 192, 193, 194, 195, 196, 197, 198, 199, 200, 201, 202, 203, 204, 205, 206, 207, 208, 209, 210, 211, 212, 213, 214, 215, 216, 217, 218, 219, 220, 221, 222, 223, 224, 225, 226, 227, 228, 229, 230, 231, 232, 233, 234, 235, 236, 237, 238, 239, 240, 241, 242, 243, 244, 245, 246, 247, 248, 249, 250, 251, 252, 253, 254, 255, 256, 257, 258, 259, 260, 261, 262, 263, 264, 265, 266, 267, 268, 269, 270, 271, 272, 273, 274, 275, 276, 277, 278] (by decide +kernel) (by decide +kernel)) (goodIn_sub (fun _ h => List.mem_cons_of_mem _ (List.mem_append_right _ h)) (by decide +kernel))
set_option maxRecDepth 20000 in
theorem gL_load_X8_load : GoodIn wsL_load (wsV RL 17 RX8 yX8_load wsX8_load) := goodIn_app (goodIn_of _ (by decide +kernel)) ggL_load_X8_load
theorem dL_load_0 : decode cL_load 0 = .ok (.aload_n 1, 1) := by decide +kernel
theorem dL_load_1 : decode cL_load 1 = .ok (.iconst 0, 1) := by decide +kernel
theorem dL_load_2 : decode cL_load 2 = .ok (.aload_n 0, 1) := by decide +kernel
theorem dL_load_3 : decode cL_load 3 = .ok (.invokevirtual 17, 3) := by decide +kernel
theorem dL_load_6 : decode cL_load 6 = .ok (.i2l, 1) := by decide +kernel
theorem dL_load_7 : decode cL_load 7 = .ok (.lastore, 1) := by decide +kernel
theorem dL_load_8 : decode cL_load 8 = .ok (.goto 6, 3) := by decide +kernel
theorem dL_load_11 : decode cL_load 11 = .ok (.astore_n 2, 1) := by decide +kernel
theorem dL_load_12 : decode cL_load 12 = .ok (.iconst 1, 1) := by decide +kernel
theorem dL_load_13 : decode cL_load 13 = .ok (.ireturn, 1) := by decide +kernel
theorem dL_load_14 : decode cL_load 14 = .ok (.iconst 0, 1) := by decide +kernel
theorem dL_load_15 : decode cL_load 15 = .ok (.ireturn, 1) := by decide +kernel
set_option maxRecDepth 20000 in
theorem ggL_about_X8_about : GoodIn wsL_about wsX8_about := goodIn_ca (goodIn_r _ [6, 7, 8, 9, 10, 11, 12, 13, 14, 15, 16, 17, 18, 19, 20, 21, 22, 23, 24, 25, 26, 27, 28, 29, 30, 31, 32, 33, 34, 35, 36, 37, 38, 39, 40, 41, 42, 43, 44, 45, 46, 47, 48, 49, 50, 51, 52, 53, 54, 55, 5, 56, 57, 58, 59, 60, 61, 62, 63, 64, 65, 66, 67, 68, 69, 70, 71, 72, 73, 74, 75, 76, 77, 78, 79, 80, 81] (by decide +kernel) (by decide +kernel)) (goodIn_sub (fun _ h => List.mem_cons_of_mem _ (List.mem_append_right _ h)) (by decide +kernel))
set_option maxRecDepth 20000 in
theorem gL_about_X8_about : GoodIn wsL_about (wsV RL 21 RX8 yX8_about wsX8_about) := goodIn_app (goodIn_of _ (by decide +kernel)) ggL_about_X8_about
theorem dL_about_0 : decode cL_about 0 = .ok (.aload_n 2, 1) := by decide +kernel
theorem dL_about_1 : decode cL_about 1 = .ok (.iconst 0, 1) := by decide +kernel
theorem dL_about_2 : decode cL_about 2 = .ok (.aload_n 0, 1) := by decide +kernel
theorem dL_about_3 : decode cL_about 3 = .ok (.iload_n 1, 1) := by decide +kernel
theorem dL_about_4 : decode cL_about 4 = .ok (.invokevirtual 21, 3) := by decide +kernel
theorem dL_about_7 : decode cL_about 7 = .ok (.i2l, 1) := by decide +kernel
theorem dL_about_8 : decode cL_about 8 = .ok (.lastore, 1) := by decide +kernel
theorem dL_about_9 : decode cL_about 9 = .ok (.goto 6, 3) := by decide +kernel
theorem dL_about_12 : decode cL_about 12 = .ok (.astore_n 3, 1) := by decide +kernel
theorem dL_about_13 : decode cL_about 13 = .ok (.iconst 1, 1) := by decide +kernel
theorem dL_about_14 : decode cL_about 14 = .ok (.ireturn, 1) := by decide +kernel
theorem dL_about_15 : decode cL_about 15 = .ok (.iconst 0, 1) := by decide +kernel
theorem dL_about_16 : decode cL_about 16 = .ok (.ireturn, 1) := by decide +kernel
set_option maxRecDepth 20000 in
theorem ggL_unit_X8_unit : GoodIn wsL_unit wsX8_unit := goodIn_ca (goodIn_ca (goodIn_r _ [7, 8, 9, 10, 11, 12, 13, 14, 15, 16, 17, 18, 19, 20, 21, 22, 23, 24, 25, 26, 27, 28, 29, 30, 31, 32, 33, 34, 35, 36, 37, 38, 39, 40, 41, 42, 43, 44, 45, 46, 47, 48, 49, 50, 51, 52, 53, 54, 55, 56, 57, 58, 59] (by decide +kernel) (by decide +kernel)) (goodIn_sub (fun _ h => List.mem_cons_of_mem _ (List.mem_append_left _ (List.mem_append_right _ h))) (by decide +kernel))) (goodIn_sub (fun _ h => List.mem_cons_of_mem _ (List.mem_append_right _ h)) (by decide +kernel))
set_option maxRecDepth 20000 in
theorem gL_unit_X8_unit : GoodIn wsL_unit (wsV RL 24 RX8 yX8_unit wsX8_unit) := goodIn_app (goodIn_of _ (by decide +kernel)) ggL_unit_X8_unit
theorem dL_unit_0 : decode cL_unit 0 = .ok (.aload_n 3, 1) := by decide +kernel
theorem dL_unit_1 : decode cL_unit 1 = .ok (.iconst 0, 1) := by decide +kernel
theorem dL_unit_2 : decode cL_unit 2 = .ok (.aload_n 0, 1) := by decide +kernel
theorem dL_unit_3 : decode cL_unit 3 = .ok (.iload_n 1, 1) := by decide +kernel
theorem dL_unit_4 : decode cL_unit 4 = .ok (.iload_n 2, 1) := by decide +kernel
theorem dL_unit_5 : decode cL_unit 5 = .ok (.invokevirtual 24, 3) := by decide +kernel
theorem dL_unit_8 : decode cL_unit 8 = .ok (.i2l, 1) := by decide +kernel
theorem dL_unit_9 : decode cL_unit 9 = .ok (.lastore, 1) := by decide +kernel
theorem dL_unit_10 : decode cL_unit 10 = .ok (.goto 11, 3) := by decide +kernel
theorem dL_unit_13 : decode cL_unit 13 = .ok (.astore 4, 2) := by decide +kernel
theorem dL_unit_15 : decode cL_unit 15 = .ok (.iconst 1, 1) := by decide +kernel
theorem dL_unit_16 : decode cL_unit 16 = .ok (.ireturn, 1) := by decide +kernel
theorem dL_unit_17 : decode cL_unit 17 = .ok (.astore 4, 2) := by decide +kernel
theorem dL_unit_19 : decode cL_unit 19 = .ok (.iconst 2, 1) := by decide +kernel
theorem dL_unit_20 : decode cL_unit 20 = .ok (.ireturn, 1) := by decide +kernel
theorem dL_unit_21 : decode cL_unit 21 = .ok (.iconst 0, 1) := by decide +kernel
theorem dL_unit_22 : decode cL_unit 22 = .ok (.ireturn, 1) := by decide +kernel
set_option maxRecDepth 20000 in
theorem ggL_holder_X8_holder : GoodIn wsL_holder wsX8_holder := goodIn_ca (goodIn_ca (goodIn_r _ [7, 8, 9, 10, 11, 12, 13, 14, 6, 15, 16, 17, 18, 19, 20, 21, 22, 23, 24, 25, 26, 27, 28, 29, 30, 31, 32, 33, 34, 35, 36, 37, 38, 39, 40, 41, 42, 43, 44, 45, 46, 47, 48, 49, 50, 51, 52, 53, 54, 55, 56, 57, 58, 59, 60, 61, 62, 63, 64, 65] (by decide +kernel) (by decide +kernel)) (goodIn_sub (fun _ h => List.mem_cons_of_mem _ (List.mem_append_left _ (List.mem_append_right _ h))) (by decide +kernel))) (goodIn_sub (fun _ h => List.mem_cons_of_mem _ (List.mem_append_right _ h)) (by decide +kernel))
set_option maxRecDepth 20000 in
theorem gL_holder_X8_holder : GoodIn wsL_holder (wsV RL 30 RX8 yX8_holder wsX8_holder) := goodIn_app (goodIn_of _ (by decide +kernel)) ggL_holder_X8_holder
theorem dL_holder_0 : decode cL_holder 0 = .ok (.aload_n 3, 1) := by decide +kernel
theorem dL_holder_1 : decode cL_holder 1 = .ok (.iconst 0, 1) := by decide +kernel
theorem dL_holder_2 : decode cL_holder 2 = .ok (.aload_n 0, 1) := by decide +kernel
theorem dL_holder_3 : decode cL_holder 3 = .ok (.iload_n 1, 1) := by decide +kernel
theorem dL_holder_4 : decode cL_holder 4 = .ok (.iload_n 2, 1) := by decide +kernel
theorem dL_holder_5 : decode cL_holder 5 = .ok (.invokevirtual 30, 3) := by decide +kernel
theorem dL_holder_8 : decode cL_holder 8 = .ok (.i2l, 1) := by decide +kernel
theorem dL_holder_9 : decode cL_holder 9 = .ok (.lastore, 1) := by decide +kernel
theorem dL_holder_10 : decode cL_holder 10 = .ok (.goto 11, 3) := by decide +kernel
theorem dL_holder_13 : decode cL_holder 13 = .ok (.astore 4, 2) := by decide +kernel
theorem dL_holder_15 : decode cL_holder 15 = .ok (.iconst 1, 1) := by decide +kernel
theorem dL_holder_16 : decode cL_holder 16 = .ok (.ireturn, 1) := by decide +kernel
theorem dL_holder_17 : decode cL_holder 17 = .ok (.astore 4, 2) := by decide +kernel
theorem dL_holder_19 : decode cL_holder 19 = .ok (.iconst 2, 1) := by decide +kernel
theorem dL_holder_20 : decode cL_holder 20 = .ok (.ireturn, 1) := by decide +kernel
theorem dL_holder_21 : decode cL_holder 21 = .ok (.iconst 0, 1) := by decide +kernel
theorem dL_holder_22 : decode cL_holder 22 = .ok (.ireturn, 1) := by decide +kernel
set_option maxRecDepth 20000 in
theorem ggL_owed_X8_owed : GoodIn wsL_owed wsX8_owed := goodIn_ca (goodIn_r _ [6, 7, 8, 9, 10, 11, 5, 12, 13, 14, 15, 16, 17, 18, 19, 20, 21, 22, 23, 24, 25, 26, 27, 28, 29, 30, 31, 32, 33, 34, 35, 36, 37, 38, 39, 40, 41, 42] (by decide +kernel) (by decide +kernel)) (goodIn_sub (fun _ h => List.mem_cons_of_mem _ (List.mem_append_right _ h)) (by decide +kernel))
set_option maxRecDepth 20000 in
theorem gL_owed_X8_owed : GoodIn wsL_owed (wsV RL 33 RX8 yX8_owed wsX8_owed) := goodIn_app (goodIn_of _ (by decide +kernel)) ggL_owed_X8_owed
theorem dL_owed_0 : decode cL_owed 0 = .ok (.aload 5, 2) := by decide +kernel
theorem dL_owed_2 : decode cL_owed 2 = .ok (.iconst 0, 1) := by decide +kernel
theorem dL_owed_3 : decode cL_owed 3 = .ok (.aload_n 0, 1) := by decide +kernel
theorem dL_owed_4 : decode cL_owed 4 = .ok (.iload_n 1, 1) := by decide +kernel
theorem dL_owed_5 : decode cL_owed 5 = .ok (.iload_n 2, 1) := by decide +kernel
theorem dL_owed_6 : decode cL_owed 6 = .ok (.iload_n 3, 1) := by decide +kernel
theorem dL_owed_7 : decode cL_owed 7 = .ok (.iload 4, 2) := by decide +kernel
theorem dL_owed_9 : decode cL_owed 9 = .ok (.invokevirtual 33, 3) := by decide +kernel
theorem dL_owed_12 : decode cL_owed 12 = .ok (.i2l, 1) := by decide +kernel
theorem dL_owed_13 : decode cL_owed 13 = .ok (.lastore, 1) := by decide +kernel
theorem dL_owed_14 : decode cL_owed 14 = .ok (.goto 7, 3) := by decide +kernel
theorem dL_owed_17 : decode cL_owed 17 = .ok (.astore 6, 2) := by decide +kernel
theorem dL_owed_19 : decode cL_owed 19 = .ok (.iconst 1, 1) := by decide +kernel
theorem dL_owed_20 : decode cL_owed 20 = .ok (.ireturn, 1) := by decide +kernel
theorem dL_owed_21 : decode cL_owed 21 = .ok (.iconst 0, 1) := by decide +kernel
theorem dL_owed_22 : decode cL_owed 22 = .ok (.ireturn, 1) := by decide +kernel
set_option maxRecDepth 20000 in
theorem ggL_core_X8_core : GoodIn wsL_core wsX8_core := goodIn_ca (goodIn_ca (goodIn_r _ [7, 8, 9, 10, 11, 12, 13, 14, 6, 15, 16, 17, 18, 19, 20, 21, 22, 23, 24, 25, 26, 27, 28, 29, 30, 31, 32, 33, 34, 35, 36, 37, 38, 39, 40, 41, 42, 43, 44, 45, 46, 47] (by decide +kernel) (by decide +kernel)) (goodIn_sub (fun _ h => List.mem_cons_of_mem _ (List.mem_append_left _ (List.mem_append_right _ h))) (by decide +kernel))) (goodIn_sub (fun _ h => List.mem_cons_of_mem _ (List.mem_append_right _ h)) (by decide +kernel))
set_option maxRecDepth 20000 in
theorem gL_core_X8_core : GoodIn wsL_core (wsV RL 37 RX8 yX8_core wsX8_core) := goodIn_app (goodIn_of _ (by decide +kernel)) ggL_core_X8_core
theorem dL_core_0 : decode cL_core 0 = .ok (.aload 4, 2) := by decide +kernel
theorem dL_core_2 : decode cL_core 2 = .ok (.iconst 0, 1) := by decide +kernel
theorem dL_core_3 : decode cL_core 3 = .ok (.aload_n 0, 1) := by decide +kernel
theorem dL_core_4 : decode cL_core 4 = .ok (.iload_n 1, 1) := by decide +kernel
theorem dL_core_5 : decode cL_core 5 = .ok (.iload_n 2, 1) := by decide +kernel
theorem dL_core_6 : decode cL_core 6 = .ok (.iload_n 3, 1) := by decide +kernel
theorem dL_core_7 : decode cL_core 7 = .ok (.invokevirtual 37, 3) := by decide +kernel
theorem dL_core_10 : decode cL_core 10 = .ok (.i2l, 1) := by decide +kernel
theorem dL_core_11 : decode cL_core 11 = .ok (.lastore, 1) := by decide +kernel
theorem dL_core_12 : decode cL_core 12 = .ok (.goto 11, 3) := by decide +kernel
theorem dL_core_15 : decode cL_core 15 = .ok (.astore 5, 2) := by decide +kernel
theorem dL_core_17 : decode cL_core 17 = .ok (.iconst 1, 1) := by decide +kernel
theorem dL_core_18 : decode cL_core 18 = .ok (.ireturn, 1) := by decide +kernel
theorem dL_core_19 : decode cL_core 19 = .ok (.astore 5, 2) := by decide +kernel
theorem dL_core_21 : decode cL_core 21 = .ok (.iconst 2, 1) := by decide +kernel
theorem dL_core_22 : decode cL_core 22 = .ok (.ireturn, 1) := by decide +kernel
theorem dL_core_23 : decode cL_core 23 = .ok (.iconst 0, 1) := by decide +kernel
theorem dL_core_24 : decode cL_core 24 = .ok (.ireturn, 1) := by decide +kernel
set_option maxRecDepth 20000 in
theorem ggL_setting_X8_setting : GoodIn wsL_setting wsX8_setting := goodIn_ca (goodIn_r _ [6, 7, 8, 9, 10, 11, 5, 12, 13, 14, 15, 16, 17, 18, 19, 20, 21, 22, 23, 24, 25, 26, 27] (by decide +kernel) (by decide +kernel)) (goodIn_sub (fun _ h => List.mem_cons_of_mem _ (List.mem_append_right _ h)) (by decide +kernel))
set_option maxRecDepth 20000 in
theorem gL_setting_X8_setting : GoodIn wsL_setting (wsV RL 41 RX8 yX8_setting wsX8_setting) := goodIn_app (goodIn_of _ (by decide +kernel)) ggL_setting_X8_setting
theorem dL_setting_0 : decode cL_setting 0 = .ok (.aload_n 2, 1) := by decide +kernel
theorem dL_setting_1 : decode cL_setting 1 = .ok (.iconst 0, 1) := by decide +kernel
theorem dL_setting_2 : decode cL_setting 2 = .ok (.aload_n 0, 1) := by decide +kernel
theorem dL_setting_3 : decode cL_setting 3 = .ok (.iload_n 1, 1) := by decide +kernel
theorem dL_setting_4 : decode cL_setting 4 = .ok (.invokevirtual 41, 3) := by decide +kernel
theorem dL_setting_7 : decode cL_setting 7 = .ok (.i2l, 1) := by decide +kernel
theorem dL_setting_8 : decode cL_setting 8 = .ok (.lastore, 1) := by decide +kernel
theorem dL_setting_9 : decode cL_setting 9 = .ok (.goto 6, 3) := by decide +kernel
theorem dL_setting_12 : decode cL_setting 12 = .ok (.astore_n 3, 1) := by decide +kernel
theorem dL_setting_13 : decode cL_setting 13 = .ok (.iconst 1, 1) := by decide +kernel
theorem dL_setting_14 : decode cL_setting 14 = .ok (.ireturn, 1) := by decide +kernel
theorem dL_setting_15 : decode cL_setting 15 = .ok (.iconst 0, 1) := by decide +kernel
theorem dL_setting_16 : decode cL_setting 16 = .ok (.ireturn, 1) := by decide +kernel
set_option maxRecDepth 20000 in
theorem ggL_come_X8_come : GoodIn wsL_come wsX8_come := goodIn_ca (goodIn_ca (goodIn_ca (goodIn_r _ [8, 9, 10, 11, 12, 13, 14, 15, 16, 17, 18, 19, 20, 21, 22, 23, 24, 25, 26, 27, 28, 29, 30, 31, 32, 33, 34, 35, 36, 37, 38, 39, 40, 41, 42, 43, 44, 45, 46, 47, 48, 49, 50, 51, 52, 53, 54, 55, 56, 57, 58, 59, 60, 61, 62, 63, 7, 64, 65, 66, 67, 68, 69, 70, 71, 72, 73, 74, 75, 76, 77, 78, 79, 80, 81, 82, 83, 84, 85, 86, 87, 88, 89, 90, 91, 92, 93, 94, 95, 96, 97, 98, 99, 100, 101, 102, 103, 104, 105, 106, 107, 108, 109, 110, 111, 112, 113, 114, 115, 116, 117, 118] (by decide +kernel) (by decide +kernel)) (goodIn_sub (fun _ h => List.mem_cons_of_mem _ (List.mem_append_left _ (List.mem_append_left _ (List.mem_append_right _ h)))) (by decide +kernel))) (goodIn_sub (fun _ h => List.mem_cons_of_mem _ (List.mem_append_left _ (List.mem_append_right _ h))) (by decide +kernel))) (goodIn_sub (fun _ h => List.mem_cons_of_mem _ (List.mem_append_right _ h)) (by decide +kernel))
set_option maxRecDepth 20000 in
theorem gL_come_X8_come : GoodIn wsL_come (wsV RL 44 RX8 yX8_come wsX8_come) := goodIn_app (goodIn_of _ (by decide +kernel)) ggL_come_X8_come
theorem dL_come_0 : decode cL_come 0 = .ok (.aload 4, 2) := by decide +kernel
theorem dL_come_2 : decode cL_come 2 = .ok (.iconst 0, 1) := by decide +kernel
theorem dL_come_3 : decode cL_come 3 = .ok (.aload_n 0, 1) := by decide +kernel
theorem dL_come_4 : decode cL_come 4 = .ok (.iload_n 1, 1) := by decide +kernel
theorem dL_come_5 : decode cL_come 5 = .ok (.iload_n 2, 1) := by decide +kernel
theorem dL_come_6 : decode cL_come 6 = .ok (.iload_n 3, 1) := by decide +kernel
theorem dL_come_7 : decode cL_come 7 = .ok (.invokevirtual 44, 3) := by decide +kernel
theorem dL_come_10 : decode cL_come 10 = .ok (.i2l, 1) := by decide +kernel
theorem dL_come_11 : decode cL_come 11 = .ok (.lastore, 1) := by decide +kernel
theorem dL_come_12 : decode cL_come 12 = .ok (.goto 15, 3) := by decide +kernel
theorem dL_come_15 : decode cL_come 15 = .ok (.astore 5, 2) := by decide +kernel
theorem dL_come_17 : decode cL_come 17 = .ok (.iconst 1, 1) := by decide +kernel
theorem dL_come_18 : decode cL_come 18 = .ok (.ireturn, 1) := by decide +kernel
theorem dL_come_19 : decode cL_come 19 = .ok (.astore 5, 2) := by decide +kernel
theorem dL_come_21 : decode cL_come 21 = .ok (.iconst 2, 1) := by decide +kernel
theorem dL_come_22 : decode cL_come 22 = .ok (.ireturn, 1) := by decide +kernel
theorem dL_come_23 : decode cL_come 23 = .ok (.astore 5, 2) := by decide +kernel
theorem dL_come_25 : decode cL_come 25 = .ok (.iconst 3, 1) := by decide +kernel
theorem dL_come_26 : decode cL_come 26 = .ok (.ireturn, 1) := by decide +kernel
theorem dL_come_27 : decode cL_come 27 = .ok (.iconst 0, 1) := by decide +kernel
theorem dL_come_28 : decode cL_come 28 = .ok (.ireturn, 1) := by decide +kernel
set_option maxRecDepth 20000 in
theorem ggL_lend_X8_lend : GoodIn wsL_lend wsX8_lend := goodIn_ca (goodIn_ca (goodIn_ca (goodIn_r _ [8, 9, 10, 11, 12, 13, 14, 15, 16, 17, 18, 19, 20, 21, 22, 23, 24, 25, 26, 27, 28, 29, 30, 31, 32, 33, 34, 35, 36, 37, 38, 39, 40, 41, 42, 43, 44, 45, 46, 47, 48, 49, 50, 51, 52, 53, 54, 55, 56, 57, 58, 59, 60, 61, 62, 63, 64, 65, 66, 7, 67, 68, 69, 70, 71, 72, 73, 74, 75, 76, 77, 78, 79, 80, 81, 82, 83, 84, 85, 86, 87, 88, 89, 90, 91, 92, 93, 94, 95, 96, 97, 98, 99, 100, 101, 102, 103, 104, 105, 106, 107, 108, 109, 110, 111, 112, 113, 114] (by decide +kernel) (by decide +kernel)) (goodIn_sub (fun _ h => List.mem_cons_of_mem _ (List.mem_append_left _ (List.mem_append_left _ (List.mem_append_right _ h)))) (by decide +kernel))) (goodIn_sub (fun _ h => List.mem_cons_of_mem _ (List.mem_append_left _ (List.mem_append_right _ h))) (by decide +kernel))) (goodIn_sub (fun _ h => List.mem_cons_of_mem _ (List.mem_append_right _ h)) (by decide +kernel))
set_option maxRecDepth 20000 in
theorem gL_lend_X8_lend : GoodIn wsL_lend (wsV RL 47 RX8 yX8_lend wsX8_lend) := goodIn_app (goodIn_of _ (by decide +kernel)) ggL_lend_X8_lend
theorem dL_lend_0 : decode cL_lend 0 = .ok (.aload 4, 2) := by decide +kernel
theorem dL_lend_2 : decode cL_lend 2 = .ok (.iconst 0, 1) := by decide +kernel
theorem dL_lend_3 : decode cL_lend 3 = .ok (.aload_n 0, 1) := by decide +kernel
theorem dL_lend_4 : decode cL_lend 4 = .ok (.iload_n 1, 1) := by decide +kernel
theorem dL_lend_5 : decode cL_lend 5 = .ok (.iload_n 2, 1) := by decide +kernel
theorem dL_lend_6 : decode cL_lend 6 = .ok (.iload_n 3, 1) := by decide +kernel
theorem dL_lend_7 : decode cL_lend 7 = .ok (.invokevirtual 47, 3) := by decide +kernel
theorem dL_lend_10 : decode cL_lend 10 = .ok (.i2l, 1) := by decide +kernel
theorem dL_lend_11 : decode cL_lend 11 = .ok (.lastore, 1) := by decide +kernel
theorem dL_lend_12 : decode cL_lend 12 = .ok (.goto 15, 3) := by decide +kernel
theorem dL_lend_15 : decode cL_lend 15 = .ok (.astore 5, 2) := by decide +kernel
theorem dL_lend_17 : decode cL_lend 17 = .ok (.iconst 1, 1) := by decide +kernel
theorem dL_lend_18 : decode cL_lend 18 = .ok (.ireturn, 1) := by decide +kernel
theorem dL_lend_19 : decode cL_lend 19 = .ok (.astore 5, 2) := by decide +kernel
theorem dL_lend_21 : decode cL_lend 21 = .ok (.iconst 2, 1) := by decide +kernel
theorem dL_lend_22 : decode cL_lend 22 = .ok (.ireturn, 1) := by decide +kernel
theorem dL_lend_23 : decode cL_lend 23 = .ok (.astore 5, 2) := by decide +kernel
theorem dL_lend_25 : decode cL_lend 25 = .ok (.iconst 3, 1) := by decide +kernel
theorem dL_lend_26 : decode cL_lend 26 = .ok (.ireturn, 1) := by decide +kernel
theorem dL_lend_27 : decode cL_lend 27 = .ok (.iconst 0, 1) := by decide +kernel
theorem dL_lend_28 : decode cL_lend 28 = .ok (.ireturn, 1) := by decide +kernel
set_option maxRecDepth 20000 in
theorem ggL_bring_X8_bring : GoodIn wsL_bring wsX8_bring := goodIn_ca (goodIn_ca (goodIn_ca (goodIn_r _ [7, 8, 9, 10, 11, 12, 13, 14, 15, 16, 17, 18, 19, 20, 21, 22, 23, 24, 25, 26, 27, 28, 29, 30, 31, 32, 33, 34, 35, 36, 37, 38, 39, 40, 41, 42, 43, 44, 45, 46, 47, 48, 49, 50, 51, 52, 53, 54, 55, 56, 57, 58, 59, 60, 61, 62, 63, 64, 65, 66, 67, 68, 69, 70, 71, 72, 73, 74, 75, 76, 77, 78, 79, 80, 81, 82, 83, 84, 85, 6, 86, 87, 88, 89, 90, 91, 92, 93, 94, 95, 96, 97, 98, 99, 100, 101, 102, 103, 104, 105, 106, 107, 108, 109, 110, 111, 112, 113, 114, 115, 116, 117, 118, 119, 120, 121, 122, 123, 124, 125, 126, 127, 128, 129, 130] (by decide +kernel) (by decide +kernel)) (goodIn_sub (fun _ h => List.mem_cons_of_mem _ (List.mem_append_left _ (List.mem_append_left _ (List.mem_append_right _ h)))) (by decide +kernel))) (goodIn_sub (fun _ h => List.mem_cons_of_mem _ (List.mem_append_left _ (List.mem_append_right _ h))) (by decide +kernel))) (goodIn_sub (fun _ h => List.mem_cons_of_mem _ (List.mem_append_right _ h)) (by decide +kernel))
set_option maxRecDepth 20000 in
theorem gL_bring_X8_bring : GoodIn wsL_bring (wsV RL 50 RX8 yX8_bring wsX8_bring) := goodIn_app (goodIn_of _ (by decide +kernel)) ggL_bring_X8_bring
theorem dL_bring_0 : decode cL_bring 0 = .ok (.aload_n 2, 1) := by decide +kernel
theorem dL_bring_1 : decode cL_bring 1 = .ok (.iconst 0, 1) := by decide +kernel
theorem dL_bring_2 : decode cL_bring 2 = .ok (.aload_n 0, 1) := by decide +kernel
theorem dL_bring_3 : decode cL_bring 3 = .ok (.iload_n 1, 1) := by decide +kernel
theorem dL_bring_4 : decode cL_bring 4 = .ok (.invokevirtual 50, 3) := by decide +kernel
theorem dL_bring_7 : decode cL_bring 7 = .ok (.i2l, 1) := by decide +kernel
theorem dL_bring_8 : decode cL_bring 8 = .ok (.lastore, 1) := by decide +kernel
theorem dL_bring_9 : decode cL_bring 9 = .ok (.goto 9, 3) := by decide +kernel
theorem dL_bring_12 : decode cL_bring 12 = .ok (.astore_n 3, 1) := by decide +kernel
theorem dL_bring_13 : decode cL_bring 13 = .ok (.iconst 1, 1) := by decide +kernel
theorem dL_bring_14 : decode cL_bring 14 = .ok (.ireturn, 1) := by decide +kernel
theorem dL_bring_15 : decode cL_bring 15 = .ok (.astore_n 3, 1) := by decide +kernel
theorem dL_bring_16 : decode cL_bring 16 = .ok (.iconst 2, 1) := by decide +kernel
theorem dL_bring_17 : decode cL_bring 17 = .ok (.ireturn, 1) := by decide +kernel
theorem dL_bring_18 : decode cL_bring 18 = .ok (.iconst 0, 1) := by decide +kernel
theorem dL_bring_19 : decode cL_bring 19 = .ok (.ireturn, 1) := by decide +kernel
set_option maxRecDepth 20000 in
theorem ggL_exchange_X8_exchange : GoodIn wsL_exchange wsX8_exchange := goodIn_ca (goodIn_ca (goodIn_ca (goodIn_r _ [7, 8, 9, 10, 11, 12, 13, 14, 15, 16, 17, 18, 19, 20, 21, 22, 23, 24, 25, 26, 27, 28, 29, 30, 31, 32, 33, 34, 35, 36, 37, 38, 39, 40, 41, 42, 43, 44, 45, 46, 47, 48, 49, 50, 51, 52, 53, 54, 55, 56, 57, 58, 59, 60, 61, 62, 63, 64, 65, 66, 67, 68, 69, 70, 71, 72, 73, 74, 75, 76, 77, 78, 79, 80, 81, 82, 83, 84, 85, 86, 87, 88, 89, 90, 91, 92, 93, 94, 95, 96, 97, 98, 99, 100, 101, 6, 102, 103, 104, 105, 106, 107, 108, 109, 110, 111, 112, 113, 114, 115, 116, 117, 118, 119, 120, 121, 122, 123, 124, 125, 126, 127, 128, 129, 130, 131, 132, 133, 134, 135, 136, 137, 138, 139, 140, 141, 142, 143] (by decide +kernel) (by decide +kernel)) (goodIn_sub (fun _ h => List.mem_cons_of_mem _ (List.mem_append_left _ (List.mem_append_left _ (List.mem_append_right _ h)))) (by decide +kernel))) (goodIn_sub (fun _ h => List.mem_cons_of_mem _ (List.mem_append_left _ (List.mem_append_right _ h))) (by decide +kernel))) (goodIn_sub (fun _ h => List.mem_cons_of_mem _ (List.mem_append_right _ h)) (by decide +kernel))
set_option maxRecDepth 20000 in
theorem gL_exchange_X8_exchange : GoodIn wsL_exchange (wsV RL 53 RX8 yX8_exchange wsX8_exchange) := goodIn_app (goodIn_of _ (by decide +kernel)) ggL_exchange_X8_exchange
theorem dL_exchange_0 : decode cL_exchange 0 = .ok (.aload_n 3, 1) := by decide +kernel
theorem dL_exchange_1 : decode cL_exchange 1 = .ok (.iconst 0, 1) := by decide +kernel
theorem dL_exchange_2 : decode cL_exchange 2 = .ok (.aload_n 0, 1) := by decide +kernel
theorem dL_exchange_3 : decode cL_exchange 3 = .ok (.iload_n 1, 1) := by decide +kernel
theorem dL_exchange_4 : decode cL_exchange 4 = .ok (.iload_n 2, 1) := by decide +kernel
theorem dL_exchange_5 : decode cL_exchange 5 = .ok (.invokevirtual 53, 3) := by decide +kernel
theorem dL_exchange_8 : decode cL_exchange 8 = .ok (.i2l, 1) := by decide +kernel
theorem dL_exchange_9 : decode cL_exchange 9 = .ok (.lastore, 1) := by decide +kernel
theorem dL_exchange_10 : decode cL_exchange 10 = .ok (.goto 11, 3) := by decide +kernel
theorem dL_exchange_13 : decode cL_exchange 13 = .ok (.astore 4, 2) := by decide +kernel
theorem dL_exchange_15 : decode cL_exchange 15 = .ok (.iconst 1, 1) := by decide +kernel
theorem dL_exchange_16 : decode cL_exchange 16 = .ok (.ireturn, 1) := by decide +kernel
theorem dL_exchange_17 : decode cL_exchange 17 = .ok (.astore 4, 2) := by decide +kernel
theorem dL_exchange_19 : decode cL_exchange 19 = .ok (.iconst 2, 1) := by decide +kernel
theorem dL_exchange_20 : decode cL_exchange 20 = .ok (.ireturn, 1) := by decide +kernel
theorem dL_exchange_21 : decode cL_exchange 21 = .ok (.iconst 0, 1) := by decide +kernel
theorem dL_exchange_22 : decode cL_exchange 22 = .ok (.ireturn, 1) := by decide +kernel
set_option maxRecDepth 20000 in
theorem ggL_advance_X8_advance : GoodIn wsL_advance wsX8_advance := goodIn_ca (goodIn_ca (goodIn_ca (goodIn_r _ [8, 9, 10, 11, 12, 13, 14, 15, 16, 17, 18, 19, 20, 21, 22, 23, 24, 25, 26, 27, 28, 29, 30, 31, 32, 33, 34, 35, 36, 37, 38, 39, 40, 41, 42, 43, 44, 45, 46, 47, 48, 49, 50, 51, 52, 53, 54, 55, 56, 57, 58, 59, 60, 61, 62, 63, 7, 64, 65, 66, 67, 68, 69, 70, 71, 72, 73, 74, 75, 76, 77, 78, 79, 80, 81, 82, 83, 84, 85, 86, 87, 88, 89, 90, 91, 92, 93, 94, 95, 96, 97, 98, 99, 100, 101, 102, 103, 104, 105, 106, 107, 108, 109, 110, 111, 112, 113, 114, 115, 116, 117, 118, 119, 120, 121, 122, 123, 124, 125, 126, 127, 128, 129, 130, 131, 132] (by decide +kernel) (by decide +kernel)) (goodIn_sub (fun _ h => List.mem_cons_of_mem _ (List.mem_append_left _ (List.mem_append_left _ (List.mem_append_right _ h)))) (by decide +kernel))) (goodIn_sub (fun _ h => List.mem_cons_of_mem _ (List.mem_append_left _ (List.mem_append_right _ h))) (by decide +kernel))) (goodIn_sub (fun _ h => List.mem_cons_of_mem _ (List.mem_append_right _ h)) (by decide +kernel))
set_option maxRecDepth 20000 in
theorem gL_advance_X8_advance : GoodIn wsL_advance (wsV RL 56 RX8 yX8_advance wsX8_advance) := goodIn_app (goodIn_of _ (by decide +kernel)) ggL_advance_X8_advance
theorem dL_advance_0 : decode cL_advance 0 = .ok (.aload 4, 2) := by decide +kernel
theorem dL_advance_2 : decode cL_advance 2 = .ok (.iconst 0, 1) := by decide +kernel
theorem dL_advance_3 : decode cL_advance 3 = .ok (.aload_n 0, 1) := by decide +kernel
theorem dL_advance_4 : decode cL_advance 4 = .ok (.iload_n 1, 1) := by decide +kernel
theorem dL_advance_5 : decode cL_advance 5 = .ok (.iload_n 2, 1) := by decide +kernel
theorem dL_advance_6 : decode cL_advance 6 = .ok (.iload_n 3, 1) := by decide +kernel
theorem dL_advance_7 : decode cL_advance 7 = .ok (.invokevirtual 56, 3) := by decide +kernel
theorem dL_advance_10 : decode cL_advance 10 = .ok (.i2l, 1) := by decide +kernel
theorem dL_advance_11 : decode cL_advance 11 = .ok (.lastore, 1) := by decide +kernel
theorem dL_advance_12 : decode cL_advance 12 = .ok (.goto 15, 3) := by decide +kernel
theorem dL_advance_15 : decode cL_advance 15 = .ok (.astore 5, 2) := by decide +kernel
theorem dL_advance_17 : decode cL_advance 17 = .ok (.iconst 1, 1) := by decide +kernel
theorem dL_advance_18 : decode cL_advance 18 = .ok (.ireturn, 1) := by decide +kernel
theorem dL_advance_19 : decode cL_advance 19 = .ok (.astore 5, 2) := by decide +kernel
theorem dL_advance_21 : decode cL_advance 21 = .ok (.iconst 2, 1) := by decide +kernel
theorem dL_advance_22 : decode cL_advance 22 = .ok (.ireturn, 1) := by decide +kernel
theorem dL_advance_23 : decode cL_advance 23 = .ok (.astore 5, 2) := by decide +kernel
theorem dL_advance_25 : decode cL_advance 25 = .ok (.iconst 3, 1) := by decide +kernel
theorem dL_advance_26 : decode cL_advance 26 = .ok (.ireturn, 1) := by decide +kernel
theorem dL_advance_27 : decode cL_advance 27 = .ok (.iconst 0, 1) := by decide +kernel
theorem dL_advance_28 : decode cL_advance 28 = .ok (.ireturn, 1) := by decide +kernel
set_option maxRecDepth 20000 in
theorem ggL_deliver_X8_deliver : GoodIn wsL_deliver wsX8_deliver := goodIn_ca (goodIn_ca (goodIn_ca (goodIn_r _ [7, 8, 9, 10, 11, 12, 13, 14, 15, 16, 17, 18, 19, 20, 21, 22, 23, 24, 25, 26, 27, 28, 29, 30, 31, 32, 33, 34, 35, 36, 37, 38, 39, 40, 41, 42, 43, 44, 45, 46, 47, 48, 49, 50, 51, 52, 53, 54, 55, 56, 57, 58, 59, 60, 61, 62, 63, 64, 65, 66, 67, 68, 69, 70, 71, 72, 73, 74, 75, 76, 77, 78, 79, 80, 81, 82, 83, 84, 6, 85, 86, 87, 88, 89, 90, 91, 92, 93, 94, 95, 96, 97, 98, 99, 100, 101, 102, 103, 104, 105, 106, 107, 108, 109, 110, 111, 112, 113, 114, 115, 116, 117, 118, 119, 120, 121, 122, 123, 124, 125, 126, 127, 128, 129, 130, 131, 132, 133, 134, 135, 136, 137, 138, 139, 140, 141, 142, 143, 144, 145, 146, 147, 148, 149, 150, 151, 152, 153, 154, 155, 156, 157, 158, 159, 160, 161] (by decide +kernel) (by decide +kernel)) (goodIn_sub (fun _ h => List.mem_cons_of_mem _ (List.mem_append_left _ (List.mem_append_left _ (List.mem_append_right _ h)))) (by decide +kernel))) (goodIn_sub (fun _ h => List.mem_cons_of_mem _ (List.mem_append_left _ (List.mem_append_right _ h))) (by decide +kernel))) (goodIn_sub (fun _ h => List.mem_cons_of_mem _ (List.mem_append_right _ h)) (by decide +kernel))
set_option maxRecDepth 20000 in
theorem gL_deliver_X8_deliver : GoodIn wsL_deliver (wsV RL 59 RX8 yX8_deliver wsX8_deliver) := goodIn_app (goodIn_of _ (by decide +kernel)) ggL_deliver_X8_deliver
theorem dL_deliver_0 : decode cL_deliver 0 = .ok (.aload_n 2, 1) := by decide +kernel
theorem dL_deliver_1 : decode cL_deliver 1 = .ok (.iconst 0, 1) := by decide +kernel
theorem dL_deliver_2 : decode cL_deliver 2 = .ok (.aload_n 0, 1) := by decide +kernel
theorem dL_deliver_3 : decode cL_deliver 3 = .ok (.iload_n 1, 1) := by decide +kernel
theorem dL_deliver_4 : decode cL_deliver 4 = .ok (.invokevirtual 59, 3) := by decide +kernel
theorem dL_deliver_7 : decode cL_deliver 7 = .ok (.i2l, 1) := by decide +kernel
theorem dL_deliver_8 : decode cL_deliver 8 = .ok (.lastore, 1) := by decide +kernel
theorem dL_deliver_9 : decode cL_deliver 9 = .ok (.goto 9, 3) := by decide +kernel
theorem dL_deliver_12 : decode cL_deliver 12 = .ok (.astore_n 3, 1) := by decide +kernel
theorem dL_deliver_13 : decode cL_deliver 13 = .ok (.iconst 1, 1) := by decide +kernel
theorem dL_deliver_14 : decode cL_deliver 14 = .ok (.ireturn, 1) := by decide +kernel
theorem dL_deliver_15 : decode cL_deliver 15 = .ok (.astore_n 3, 1) := by decide +kernel
theorem dL_deliver_16 : decode cL_deliver 16 = .ok (.iconst 2, 1) := by decide +kernel
theorem dL_deliver_17 : decode cL_deliver 17 = .ok (.ireturn, 1) := by decide +kernel
theorem dL_deliver_18 : decode cL_deliver 18 = .ok (.iconst 0, 1) := by decide +kernel
theorem dL_deliver_19 : decode cL_deliver 19 = .ok (.ireturn, 1) := by decide +kernel
set_option maxRecDepth 20000 in
theorem ggL_take_X8_take : GoodIn wsL_take wsX8_take := goodIn_ca (goodIn_ca (goodIn_ca (goodIn_r _ [7, 8, 9, 10, 11, 12, 13, 14, 15, 16, 17, 18, 19, 20, 21, 22, 23, 24, 25, 26, 27, 28, 29, 30, 31, 32, 33, 34, 35, 36, 37, 38, 39, 40, 41, 42, 43, 44, 45, 46, 47, 48, 49, 50, 51, 52, 53, 54, 55, 56, 57, 58, 59, 60, 61, 62, 63, 64, 65, 6, 66, 67, 68, 69, 70, 71, 72, 73, 74, 75, 76, 77, 78, 79, 80, 81, 82, 83, 84, 85, 86, 87, 88, 89, 90, 91, 92, 93, 94, 95, 96, 97, 98, 99, 100, 101, 102, 103, 104, 105, 106, 107, 108, 109, 110, 111, 112, 113, 114, 115, 116, 117, 118, 119, 120, 121, 122, 123, 124, 125, 126, 127] (by decide +kernel) (by decide +kernel)) (goodIn_sub (fun _ h => List.mem_cons_of_mem _ (List.mem_append_left _ (List.mem_append_left _ (List.mem_append_right _ h)))) (by decide +kernel))) (goodIn_sub (fun _ h => List.mem_cons_of_mem _ (List.mem_append_left _ (List.mem_append_right _ h))) (by decide +kernel))) (goodIn_sub (fun _ h => List.mem_cons_of_mem _ (List.mem_append_right _ h)) (by decide +kernel))
set_option maxRecDepth 20000 in
theorem gL_take_X8_take : GoodIn wsL_take (wsV RL 62 RX8 yX8_take wsX8_take) := goodIn_app (goodIn_of _ (by decide +kernel)) ggL_take_X8_take
theorem dL_take_0 : decode cL_take 0 = .ok (.aload 4, 2) := by decide +kernel
theorem dL_take_2 : decode cL_take 2 = .ok (.iconst 0, 1) := by decide +kernel
theorem dL_take_3 : decode cL_take 3 = .ok (.aload_n 0, 1) := by decide +kernel
theorem dL_take_4 : decode cL_take 4 = .ok (.iload_n 1, 1) := by decide +kernel
theorem dL_take_5 : decode cL_take 5 = .ok (.iload_n 2, 1) := by decide +kernel
theorem dL_take_6 : decode cL_take 6 = .ok (.iload_n 3, 1) := by decide +kernel
theorem dL_take_7 : decode cL_take 7 = .ok (.invokevirtual 62, 3) := by decide +kernel
theorem dL_take_10 : decode cL_take 10 = .ok (.i2l, 1) := by decide +kernel
theorem dL_take_11 : decode cL_take 11 = .ok (.lastore, 1) := by decide +kernel
theorem dL_take_12 : decode cL_take 12 = .ok (.goto 11, 3) := by decide +kernel
theorem dL_take_15 : decode cL_take 15 = .ok (.astore 5, 2) := by decide +kernel
theorem dL_take_17 : decode cL_take 17 = .ok (.iconst 1, 1) := by decide +kernel
theorem dL_take_18 : decode cL_take 18 = .ok (.ireturn, 1) := by decide +kernel
theorem dL_take_19 : decode cL_take 19 = .ok (.astore 5, 2) := by decide +kernel
theorem dL_take_21 : decode cL_take 21 = .ok (.iconst 2, 1) := by decide +kernel
theorem dL_take_22 : decode cL_take 22 = .ok (.ireturn, 1) := by decide +kernel
theorem dL_take_23 : decode cL_take 23 = .ok (.iconst 0, 1) := by decide +kernel
theorem dL_take_24 : decode cL_take 24 = .ok (.ireturn, 1) := by decide +kernel
set_option maxRecDepth 20000 in
theorem ggL_settle_X8_settle : GoodIn wsL_settle wsX8_settle := goodIn_ca (goodIn_ca (goodIn_ca (goodIn_r _ [7, 8, 9, 10, 11, 12, 13, 14, 15, 16, 17, 18, 19, 20, 21, 22, 23, 24, 25, 26, 27, 28, 29, 30, 31, 32, 33, 34, 35, 36, 37, 38, 39, 40, 41, 42, 43, 44, 45, 46, 47, 48, 49, 50, 51, 52, 53, 54, 55, 56, 57, 58, 59, 60, 61, 62, 6, 63, 64, 65, 66, 67, 68, 69, 70, 71, 72, 73, 74, 75, 76, 77, 78, 79, 80, 81, 82, 83, 84, 85, 86, 87, 88, 89, 90, 91, 92, 93, 94, 95, 96, 97, 98, 99, 100, 101, 102, 103, 104, 105, 106, 107, 108, 109, 110, 111, 112, 113, 114, 115, 116, 117, 118, 119, 120, 121] (by decide +kernel) (by decide +kernel)) (goodIn_sub (fun _ h => List.mem_cons_of_mem _ (List.mem_append_left _ (List.mem_append_left _ (List.mem_append_right _ h)))) (by decide +kernel))) (goodIn_sub (fun _ h => List.mem_cons_of_mem _ (List.mem_append_left _ (List.mem_append_right _ h))) (by decide +kernel))) (goodIn_sub (fun _ h => List.mem_cons_of_mem _ (List.mem_append_right _ h)) (by decide +kernel))
set_option maxRecDepth 20000 in
theorem gL_settle_X8_settle : GoodIn wsL_settle (wsV RL 65 RX8 yX8_settle wsX8_settle) := goodIn_app (goodIn_of _ (by decide +kernel)) ggL_settle_X8_settle
theorem dL_settle_0 : decode cL_settle 0 = .ok (.aload 5, 2) := by decide +kernel
theorem dL_settle_2 : decode cL_settle 2 = .ok (.iconst 0, 1) := by decide +kernel
theorem dL_settle_3 : decode cL_settle 3 = .ok (.aload_n 0, 1) := by decide +kernel
theorem dL_settle_4 : decode cL_settle 4 = .ok (.iload_n 1, 1) := by decide +kernel
theorem dL_settle_5 : decode cL_settle 5 = .ok (.iload_n 2, 1) := by decide +kernel
theorem dL_settle_6 : decode cL_settle 6 = .ok (.iload_n 3, 1) := by decide +kernel
theorem dL_settle_7 : decode cL_settle 7 = .ok (.iload 4, 2) := by decide +kernel
theorem dL_settle_9 : decode cL_settle 9 = .ok (.invokevirtual 65, 3) := by decide +kernel
theorem dL_settle_12 : decode cL_settle 12 = .ok (.i2l, 1) := by decide +kernel
theorem dL_settle_13 : decode cL_settle 13 = .ok (.lastore, 1) := by decide +kernel
theorem dL_settle_14 : decode cL_settle 14 = .ok (.goto 11, 3) := by decide +kernel
theorem dL_settle_17 : decode cL_settle 17 = .ok (.astore 6, 2) := by decide +kernel
theorem dL_settle_19 : decode cL_settle 19 = .ok (.iconst 1, 1) := by decide +kernel
theorem dL_settle_20 : decode cL_settle 20 = .ok (.ireturn, 1) := by decide +kernel
theorem dL_settle_21 : decode cL_settle 21 = .ok (.astore 6, 2) := by decide +kernel
theorem dL_settle_23 : decode cL_settle 23 = .ok (.iconst 2, 1) := by decide +kernel
theorem dL_settle_24 : decode cL_settle 24 = .ok (.ireturn, 1) := by decide +kernel
theorem dL_settle_25 : decode cL_settle 25 = .ok (.iconst 0, 1) := by decide +kernel
theorem dL_settle_26 : decode cL_settle 26 = .ok (.ireturn, 1) := by decide +kernel
set_option maxRecDepth 20000 in
theorem ggL_buy_X8_buy : GoodIn wsL_buy wsX8_buy := goodIn_ca (goodIn_ca (goodIn_ca (goodIn_r _ [7, 8, 9, 10, 11, 12, 13, 14, 15, 16, 17, 18, 19, 20, 21, 22, 23, 24, 25, 26, 27, 28, 29, 30, 31, 32, 33, 34, 35, 36, 37, 38, 39, 40, 41, 42, 43, 44, 45, 46, 47, 48, 49, 50, 51, 52, 53, 54, 55, 56, 57, 58, 59, 60, 61, 62, 63, 64, 65, 6, 66, 67, 68, 69, 70, 71, 72, 73, 74, 75, 76, 77, 78, 79, 80, 81, 82, 83, 84, 85, 86, 87, 88, 89, 90, 91, 92, 93, 94, 95, 96, 97, 98, 99, 100, 101, 102, 103, 104, 105, 106, 107, 108, 109, 110, 111, 112, 113, 114, 115, 116, 117] (by decide +kernel) (by decide +kernel)) (goodIn_sub (fun _ h => List.mem_cons_of_mem _ (List.mem_append_left _ (List.mem_append_left _ (List.mem_append_right _ h)))) (by decide +kernel))) (goodIn_sub (fun _ h => List.mem_cons_of_mem _ (List.mem_append_left _ (List.mem_append_right _ h))) (by decide +kernel))) (goodIn_sub (fun _ h => List.mem_cons_of_mem _ (List.mem_append_right _ h)) (by decide +kernel))
set_option maxRecDepth 20000 in
theorem gL_buy_X8_buy : GoodIn wsL_buy (wsV RL 68 RX8 yX8_buy wsX8_buy) := goodIn_app (goodIn_of _ (by decide +kernel)) ggL_buy_X8_buy
theorem dL_buy_0 : decode cL_buy 0 = .ok (.aload_n 3, 1) := by decide +kernel
theorem dL_buy_1 : decode cL_buy 1 = .ok (.iconst 0, 1) := by decide +kernel
theorem dL_buy_2 : decode cL_buy 2 = .ok (.aload_n 0, 1) := by decide +kernel
theorem dL_buy_3 : decode cL_buy 3 = .ok (.iload_n 1, 1) := by decide +kernel
theorem dL_buy_4 : decode cL_buy 4 = .ok (.iload_n 2, 1) := by decide +kernel
theorem dL_buy_5 : decode cL_buy 5 = .ok (.invokevirtual 68, 3) := by decide +kernel
theorem dL_buy_8 : decode cL_buy 8 = .ok (.i2l, 1) := by decide +kernel
theorem dL_buy_9 : decode cL_buy 9 = .ok (.lastore, 1) := by decide +kernel
theorem dL_buy_10 : decode cL_buy 10 = .ok (.goto 11, 3) := by decide +kernel
theorem dL_buy_13 : decode cL_buy 13 = .ok (.astore 4, 2) := by decide +kernel
theorem dL_buy_15 : decode cL_buy 15 = .ok (.iconst 1, 1) := by decide +kernel
theorem dL_buy_16 : decode cL_buy 16 = .ok (.ireturn, 1) := by decide +kernel
theorem dL_buy_17 : decode cL_buy 17 = .ok (.astore 4, 2) := by decide +kernel
theorem dL_buy_19 : decode cL_buy 19 = .ok (.iconst 2, 1) := by decide +kernel
theorem dL_buy_20 : decode cL_buy 20 = .ok (.ireturn, 1) := by decide +kernel
theorem dL_buy_21 : decode cL_buy 21 = .ok (.iconst 0, 1) := by decide +kernel
theorem dL_buy_22 : decode cL_buy 22 = .ok (.ireturn, 1) := by decide +kernel
set_option maxRecDepth 20000 in
theorem ggL_days_X8_days : GoodIn wsL_days wsX8_days := goodIn_ca (goodIn_ca (goodIn_ca (goodIn_r _ [6, 7, 8, 9, 10, 11, 12, 13, 14, 15, 16, 17, 18, 19, 20, 21, 22, 23, 24, 25, 26, 27, 28, 29, 30, 31, 32, 33, 34, 35, 36, 37, 38, 39, 40, 41, 42, 43, 44, 45, 46, 47, 48, 49, 50, 51, 52, 53, 54, 55, 56, 57, 58, 59, 60, 61, 62, 63, 5, 64, 65, 66, 67, 68, 69, 70, 71, 72, 73, 74, 75, 76, 77, 78, 79, 80, 81, 82, 83, 84, 85, 86, 87, 88, 89, 90, 91, 92, 93, 94, 95, 96, 97, 98, 99, 100, 101] (by decide +kernel) (by decide +kernel)) (goodIn_sub (fun _ h => List.mem_cons_of_mem _ (List.mem_append_left _ (List.mem_append_left _ (List.mem_append_right _ h)))) (by decide +kernel))) (goodIn_sub (fun _ h => List.mem_cons_of_mem _ (List.mem_append_left _ (List.mem_append_right _ h))) (by decide +kernel))) (goodIn_sub (fun _ h => List.mem_cons_of_mem _ (List.mem_append_right _ h)) (by decide +kernel))
set_option maxRecDepth 20000 in
theorem gL_days_X8_days : GoodIn wsL_days (wsV RL 71 RX8 yX8_days wsX8_days) := goodIn_app (goodIn_of _ (by decide +kernel)) ggL_days_X8_days
theorem dL_days_0 : decode cL_days 0 = .ok (.aload_n 2, 1) := by decide +kernel
theorem dL_days_1 : decode cL_days 1 = .ok (.iconst 0, 1) := by decide +kernel
theorem dL_days_2 : decode cL_days 2 = .ok (.aload_n 0, 1) := by decide +kernel
theorem dL_days_3 : decode cL_days 3 = .ok (.iload_n 1, 1) := by decide +kernel
theorem dL_days_4 : decode cL_days 4 = .ok (.invokevirtual 71, 3) := by decide +kernel
theorem dL_days_7 : decode cL_days 7 = .ok (.i2l, 1) := by decide +kernel
theorem dL_days_8 : decode cL_days 8 = .ok (.lastore, 1) := by decide +kernel
theorem dL_days_9 : decode cL_days 9 = .ok (.goto 6, 3) := by decide +kernel
theorem dL_days_12 : decode cL_days 12 = .ok (.astore_n 3, 1) := by decide +kernel
theorem dL_days_13 : decode cL_days 13 = .ok (.iconst 1, 1) := by decide +kernel
theorem dL_days_14 : decode cL_days 14 = .ok (.ireturn, 1) := by decide +kernel
theorem dL_days_15 : decode cL_days 15 = .ok (.iconst 0, 1) := by decide +kernel
theorem dL_days_16 : decode cL_days 16 = .ok (.ireturn, 1) := by decide +kernel
set_option maxRecDepth 20000 in
theorem ggL_set_X8_set : GoodIn wsL_set wsX8_set := goodIn_ca (goodIn_ca (goodIn_ca (goodIn_r _ [6, 7, 8, 9, 10, 11, 12, 13, 14, 15, 16, 17, 18, 19, 20, 21, 22, 23, 24, 25, 26, 27, 28, 29, 30, 31, 32, 33, 34, 35, 36, 37, 38, 39, 40, 41, 42, 43, 44, 45, 46, 47, 48, 49, 50, 51, 52, 53, 54, 55, 56, 57, 58, 59, 60, 61, 5, 62, 63, 64, 65, 66, 67, 68, 69, 70, 71, 72, 73, 74, 75, 76, 77, 78, 79, 80, 81, 82, 83, 84, 85, 86, 87, 88, 89, 90, 91, 92, 93, 94, 95, 96, 97, 98, 99, 100, 101, 102, 103] (by decide +kernel) (by decide +kernel)) (goodIn_sub (fun _ h => List.mem_cons_of_mem _ (List.mem_append_left _ (List.mem_append_left _ (List.mem_append_right _ h)))) (by decide +kernel))) (goodIn_sub (fun _ h => List.mem_cons_of_mem _ (List.mem_append_left _ (List.mem_append_right _ h))) (by decide +kernel))) (goodIn_sub (fun _ h => List.mem_cons_of_mem _ (List.mem_append_right _ h)) (by decide +kernel))
set_option maxRecDepth 20000 in
theorem gL_set_X8_set : GoodIn wsL_set (wsV RL 74 RX8 yX8_set wsX8_set) := goodIn_app (goodIn_of _ (by decide +kernel)) ggL_set_X8_set
theorem dL_set_0 : decode cL_set 0 = .ok (.aload_n 3, 1) := by decide +kernel
theorem dL_set_1 : decode cL_set 1 = .ok (.iconst 0, 1) := by decide +kernel
theorem dL_set_2 : decode cL_set 2 = .ok (.aload_n 0, 1) := by decide +kernel
theorem dL_set_3 : decode cL_set 3 = .ok (.iload_n 1, 1) := by decide +kernel
theorem dL_set_4 : decode cL_set 4 = .ok (.iload_n 2, 1) := by decide +kernel
theorem dL_set_5 : decode cL_set 5 = .ok (.invokevirtual 74, 3) := by decide +kernel
theorem dL_set_8 : decode cL_set 8 = .ok (.i2l, 1) := by decide +kernel
theorem dL_set_9 : decode cL_set 9 = .ok (.lastore, 1) := by decide +kernel
theorem dL_set_10 : decode cL_set 10 = .ok (.goto 7, 3) := by decide +kernel
theorem dL_set_13 : decode cL_set 13 = .ok (.astore 4, 2) := by decide +kernel
theorem dL_set_15 : decode cL_set 15 = .ok (.iconst 1, 1) := by decide +kernel
theorem dL_set_16 : decode cL_set 16 = .ok (.ireturn, 1) := by decide +kernel
theorem dL_set_17 : decode cL_set 17 = .ok (.iconst 0, 1) := by decide +kernel
theorem dL_set_18 : decode cL_set 18 = .ok (.ireturn, 1) := by decide +kernel
set_option maxRecDepth 20000 in
theorem ggL_undo_X8_undo : GoodIn wsL_undo wsX8_undo := goodIn_ca (goodIn_r _ [6, 7, 8, 9, 10, 11, 12, 13, 14, 15, 16, 17, 18, 19, 20, 21, 22, 23, 24, 25, 26, 27, 28, 29, 30, 31, 32, 33, 34, 35, 36, 37, 38, 39, 40, 41, 42, 43, 44, 45, 46, 47, 48, 49, 50, 51, 52, 53, 54, 55, 56, 57, 58, 59, 60, 61, 62, 63, 64, 65, 66, 67, 68, 69, 70, 71, 72, 73, 74, 75, 76, 77, 78, 79, 80, 81, 82, 83, 84, 85, 86, 87] (by decide +kernel) (by decide +kernel)) (goodIn_sub (fun _ h => List.mem_cons_of_mem _ (List.mem_append_right _ h)) (by decide +kernel))
set_option maxRecDepth 20000 in
theorem gL_undo_X8_undo : GoodIn wsL_undo (wsV RL 77 RX8 yX8_undo wsX8_undo) := goodIn_app (goodIn_of _ (by decide +kernel)) ggL_undo_X8_undo
theorem dL_undo_0 : decode cL_undo 0 = .ok (.aload_n 1, 1) := by decide +kernel
theorem dL_undo_1 : decode cL_undo 1 = .ok (.iconst 0, 1) := by decide +kernel
theorem dL_undo_2 : decode cL_undo 2 = .ok (.aload_n 0, 1) := by decide +kernel
theorem dL_undo_3 : decode cL_undo 3 = .ok (.invokevirtual 77, 3) := by decide +kernel
theorem dL_undo_6 : decode cL_undo 6 = .ok (.i2l, 1) := by decide +kernel
theorem dL_undo_7 : decode cL_undo 7 = .ok (.lastore, 1) := by decide +kernel
theorem dL_undo_8 : decode cL_undo 8 = .ok (.goto 6, 3) := by decide +kernel
theorem dL_undo_11 : decode cL_undo 11 = .ok (.astore_n 2, 1) := by decide +kernel
theorem dL_undo_12 : decode cL_undo 12 = .ok (.iconst 1, 1) := by decide +kernel
theorem dL_undo_13 : decode cL_undo 13 = .ok (.ireturn, 1) := by decide +kernel
theorem dL_undo_14 : decode cL_undo 14 = .ok (.iconst 0, 1) := by decide +kernel
theorem dL_undo_15 : decode cL_undo 15 = .ok (.ireturn, 1) := by decide +kernel
set_option maxRecDepth 20000 in
theorem ggL_complete_X8_complete : GoodIn wsL_complete wsX8_complete := goodIn_ca (goodIn_r _ [6, 7, 8, 9, 10, 11, 5, 12, 13, 14, 15, 16, 17, 18, 19, 20, 21, 22, 23, 24, 25, 26, 27, 28, 29, 30, 31, 32, 33, 34, 35, 36, 37, 38, 39, 40, 41, 42, 43, 44, 45, 46, 47, 48, 49, 50, 51, 52, 53, 54, 55, 56, 57, 58, 59, 60] (by decide +kernel) (by decide +kernel)) (goodIn_sub (fun _ h => List.mem_cons_of_mem _ (List.mem_append_right _ h)) (by decide +kernel))
set_option maxRecDepth 20000 in
theorem gL_complete_X8_complete : GoodIn wsL_complete (wsV RL 80 RX8 yX8_complete wsX8_complete) := goodIn_app (goodIn_of _ (by decide +kernel)) ggL_complete_X8_complete
theorem dL_complete_0 : decode cL_complete 0 = .ok (.aload_n 3, 1) := by decide +kernel
theorem dL_complete_1 : decode cL_complete 1 = .ok (.iconst 0, 1) := by decide +kernel
theorem dL_complete_2 : decode cL_complete 2 = .ok (.aload_n 0, 1) := by decide +kernel
theorem dL_complete_3 : decode cL_complete 3 = .ok (.iload_n 1, 1) := by decide +kernel
theorem dL_complete_4 : decode cL_complete 4 = .ok (.iload_n 2, 1) := by decide +kernel
theorem dL_complete_5 : decode cL_complete 5 = .ok (.invokevirtual 80, 3) := by decide +kernel
theorem dL_complete_8 : decode cL_complete 8 = .ok (.i2l, 1) := by decide +kernel
theorem dL_complete_9 : decode cL_complete 9 = .ok (.lastore, 1) := by decide +kernel
theorem dL_complete_10 : decode cL_complete 10 = .ok (.goto 7, 3) := by decide +kernel
theorem dL_complete_13 : decode cL_complete 13 = .ok (.astore 4, 2) := by decide +kernel
theorem dL_complete_15 : decode cL_complete 15 = .ok (.iconst 1, 1) := by decide +kernel
theorem dL_complete_16 : decode cL_complete 16 = .ok (.ireturn, 1) := by decide +kernel
theorem dL_complete_17 : decode cL_complete 17 = .ok (.iconst 0, 1) := by decide +kernel
theorem dL_complete_18 : decode cL_complete 18 = .ok (.ireturn, 1) := by decide +kernel
set_option maxRecDepth 20000 in
theorem ggL_takings_X8_takings : GoodIn wsL_takings wsX8_takings := goodIn_ca (goodIn_r _ [6, 7, 8, 9, 10, 11, 5, 12, 13, 14, 15, 16, 17, 18, 19, 20, 21, 22, 23, 24, 25, 26, 27, 28, 29, 30, 31, 32, 33, 34, 35, 36, 37, 38, 39, 40, 41, 42, 43, 44, 45, 46, 47, 48, 49, 50, 51, 52, 53, 54, 55, 56, 57, 58, 59, 60, 61, 62, 63, 64, 65, 66, 67, 68, 69, 70, 71, 72, 73, 74, 75, 76, 77, 78, 79] (by decide +kernel) (by decide +kernel)) (goodIn_sub (fun _ h => List.mem_cons_of_mem _ (List.mem_append_right _ h)) (by decide +kernel))
set_option maxRecDepth 20000 in
theorem gL_takings_X8_takings : GoodIn wsL_takings (wsV RL 83 RX8 yX8_takings wsX8_takings) := goodIn_app (goodIn_of _ (by decide +kernel)) ggL_takings_X8_takings
theorem dL_takings_0 : decode cL_takings 0 = .ok (.aload_n 3, 1) := by decide +kernel
theorem dL_takings_1 : decode cL_takings 1 = .ok (.iconst 0, 1) := by decide +kernel
theorem dL_takings_2 : decode cL_takings 2 = .ok (.aload_n 0, 1) := by decide +kernel
theorem dL_takings_3 : decode cL_takings 3 = .ok (.iload_n 1, 1) := by decide +kernel
theorem dL_takings_4 : decode cL_takings 4 = .ok (.iload_n 2, 1) := by decide +kernel
theorem dL_takings_5 : decode cL_takings 5 = .ok (.invokevirtual 83, 3) := by decide +kernel
theorem dL_takings_8 : decode cL_takings 8 = .ok (.i2l, 1) := by decide +kernel
theorem dL_takings_9 : decode cL_takings 9 = .ok (.lastore, 1) := by decide +kernel
theorem dL_takings_10 : decode cL_takings 10 = .ok (.goto 7, 3) := by decide +kernel
theorem dL_takings_13 : decode cL_takings 13 = .ok (.astore 4, 2) := by decide +kernel
theorem dL_takings_15 : decode cL_takings 15 = .ok (.iconst 1, 1) := by decide +kernel
theorem dL_takings_16 : decode cL_takings 16 = .ok (.ireturn, 1) := by decide +kernel
theorem dL_takings_17 : decode cL_takings 17 = .ok (.iconst 0, 1) := by decide +kernel
theorem dL_takings_18 : decode cL_takings 18 = .ok (.ireturn, 1) := by decide +kernel
set_option maxRecDepth 20000 in
theorem ggL_bill_X8_bill : GoodIn wsL_bill wsX8_bill := goodIn_ca (goodIn_ca (goodIn_r _ [7, 8, 9, 10, 11, 12, 13, 14, 6, 15, 16, 17, 18, 19, 20, 21, 22, 23, 24, 25, 26, 27, 28, 29, 30, 31, 32, 33, 34, 35, 36, 37, 38, 39, 40, 41, 42, 43, 44, 45, 46, 47, 48, 49, 50, 51, 52, 53, 54, 55, 56, 57, 58, 59, 60, 61, 62, 63, 64, 65, 66] (by decide +kernel) (by decide +kernel)) (goodIn_sub (fun _ h => List.mem_cons_of_mem _ (List.mem_append_left _ (List.mem_append_right _ h))) (by decide +kernel))) (goodIn_sub (fun _ h => List.mem_cons_of_mem _ (List.mem_append_right _ h)) (by decide +kernel))
set_option maxRecDepth 20000 in
theorem gL_bill_X8_bill : GoodIn wsL_bill (wsV RL 86 RX8 yX8_bill wsX8_bill) := goodIn_app (goodIn_of _ (by decide +kernel)) ggL_bill_X8_bill
theorem dL_bill_0 : decode cL_bill 0 = .ok (.aload_n 3, 1) := by decide +kernel
theorem dL_bill_1 : decode cL_bill 1 = .ok (.iconst 0, 1) := by decide +kernel
theorem dL_bill_2 : decode cL_bill 2 = .ok (.aload_n 0, 1) := by decide +kernel
theorem dL_bill_3 : decode cL_bill 3 = .ok (.iload_n 1, 1) := by decide +kernel
theorem dL_bill_4 : decode cL_bill 4 = .ok (.iload_n 2, 1) := by decide +kernel
theorem dL_bill_5 : decode cL_bill 5 = .ok (.invokevirtual 86, 3) := by decide +kernel
theorem dL_bill_8 : decode cL_bill 8 = .ok (.i2l, 1) := by decide +kernel
theorem dL_bill_9 : decode cL_bill 9 = .ok (.lastore, 1) := by decide +kernel
theorem dL_bill_10 : decode cL_bill 10 = .ok (.goto 11, 3) := by decide +kernel
theorem dL_bill_13 : decode cL_bill 13 = .ok (.astore 4, 2) := by decide +kernel
theorem dL_bill_15 : decode cL_bill 15 = .ok (.iconst 1, 1) := by decide +kernel
theorem dL_bill_16 : decode cL_bill 16 = .ok (.ireturn, 1) := by decide +kernel
theorem dL_bill_17 : decode cL_bill 17 = .ok (.astore 4, 2) := by decide +kernel
theorem dL_bill_19 : decode cL_bill 19 = .ok (.iconst 2, 1) := by decide +kernel
theorem dL_bill_20 : decode cL_bill 20 = .ok (.ireturn, 1) := by decide +kernel
theorem dL_bill_21 : decode cL_bill 21 = .ok (.iconst 0, 1) := by decide +kernel
theorem dL_bill_22 : decode cL_bill 22 = .ok (.ireturn, 1) := by decide +kernel
set_option maxRecDepth 20000 in
theorem ggL_cheapest_X8_cheapest : GoodIn wsL_cheapest wsX8_cheapest := goodIn_ca (goodIn_r _ [6, 7, 8, 9, 10, 11, 5, 12, 13, 14, 15, 16, 17, 18, 19, 20, 21, 22, 23, 24, 25, 26, 27, 28, 29, 30, 31, 32, 33, 34, 35, 36, 37, 38, 39, 40, 41, 42, 43, 44, 45, 46, 47, 48, 49, 50, 51, 52, 53, 54, 55, 56, 57, 58, 59, 60, 61, 62, 63, 64, 65, 66, 67, 68, 69, 70, 71, 72, 73, 74, 75, 76] (by decide +kernel) (by decide +kernel)) (goodIn_sub (fun _ h => List.mem_cons_of_mem _ (List.mem_append_right _ h)) (by decide +kernel))
set_option maxRecDepth 20000 in
theorem gL_cheapest_X8_cheapest : GoodIn wsL_cheapest (wsV RL 89 RX8 yX8_cheapest wsX8_cheapest) := goodIn_app (goodIn_of _ (by decide +kernel)) ggL_cheapest_X8_cheapest
theorem dL_cheapest_0 : decode cL_cheapest 0 = .ok (.aload_n 3, 1) := by decide +kernel
theorem dL_cheapest_1 : decode cL_cheapest 1 = .ok (.iconst 0, 1) := by decide +kernel
theorem dL_cheapest_2 : decode cL_cheapest 2 = .ok (.aload_n 0, 1) := by decide +kernel
theorem dL_cheapest_3 : decode cL_cheapest 3 = .ok (.iload_n 1, 1) := by decide +kernel
theorem dL_cheapest_4 : decode cL_cheapest 4 = .ok (.iload_n 2, 1) := by decide +kernel
theorem dL_cheapest_5 : decode cL_cheapest 5 = .ok (.invokevirtual 89, 3) := by decide +kernel
theorem dL_cheapest_8 : decode cL_cheapest 8 = .ok (.i2l, 1) := by decide +kernel
theorem dL_cheapest_9 : decode cL_cheapest 9 = .ok (.lastore, 1) := by decide +kernel
theorem dL_cheapest_10 : decode cL_cheapest 10 = .ok (.goto 7, 3) := by decide +kernel
theorem dL_cheapest_13 : decode cL_cheapest 13 = .ok (.astore 4, 2) := by decide +kernel
theorem dL_cheapest_15 : decode cL_cheapest 15 = .ok (.iconst 1, 1) := by decide +kernel
theorem dL_cheapest_16 : decode cL_cheapest 16 = .ok (.ireturn, 1) := by decide +kernel
theorem dL_cheapest_17 : decode cL_cheapest 17 = .ok (.iconst 0, 1) := by decide +kernel
theorem dL_cheapest_18 : decode cL_cheapest 18 = .ok (.ireturn, 1) := by decide +kernel
set_option maxRecDepth 20000 in
theorem ggL_runScript_X8_runScript : GoodIn wsL_runScript wsX8_runScript := goodIn_ca (goodIn_r _ [6, 7, 8, 9, 10, 11, 12, 13, 14, 15, 16, 17, 18, 19, 20, 21, 22, 23, 24, 25, 26, 27, 28, 29, 30, 31, 32, 33, 34, 35, 36, 37, 38, 39, 40, 41, 42, 43, 44, 45, 46, 47, 48, 49, 50, 51, 52, 53, 54, 55, 56, 57, 58, 59, 60, 61, 62, 63, 64, 65, 66, 67, 68, 5, 69, 70, 71, 72, 73, 74, 75, 76, 77, 78, 79, 80, 81, 82, 83, 84, 85, 86, 87, 88, 89, 90, 91, 92, 93, 94, 95, 96, 97, 98, 99, 100, 101, 102, 103, 104, 105, 106, 107, 108, 109, 110, 111, 112, 113, 114, 115, 116, 117, 118, 119, 120, 121, 122, 123, 124, 125, 126, 127, 128, 129, 130, 131, 132, 133, 134, 135, 136, 137, 138, 139, 140, 141, 142, 143, 144, 145, 146, 147, 148, 149, 150, 151, 152, 153, 154, 155, 156, 157, 158, 159, 160, 161, 162, 163, 164, 165, 166, 167, 168, 169, 170, 171, 172, 173, 174, 175, 176, 177, 178, 179, 180, 181, 182, 183, 184, 185, 186, 187] (by decide +kernel) (by decide +kernel)) (goodIn_sub (fun _ h => List.mem_cons_of_mem _ (List.mem_append_right _ h)) (by decide +kernel))
set_option maxRecDepth 20000 in
theorem gL_runScript_X8_runScript : GoodIn wsL_runScript (wsV RL 92 RX8 yX8_runScript wsX8_runScript) := goodIn_app (goodIn_of _ (by decide +kernel)) ggL_runScript_X8_runScript
theorem dL_runScript_0 : decode cL_runScript 0 = .ok (.aload 4, 2) := by decide +kernel
theorem dL_runScript_2 : decode cL_runScript 2 = .ok (.iconst 0, 1) := by decide +kernel
theorem dL_runScript_3 : decode cL_runScript 3 = .ok (.aload_n 0, 1) := by decide +kernel
theorem dL_runScript_4 : decode cL_runScript 4 = .ok (.iload_n 1, 1) := by decide +kernel
theorem dL_runScript_5 : decode cL_runScript 5 = .ok (.lload_n 2, 1) := by decide +kernel
theorem dL_runScript_6 : decode cL_runScript 6 = .ok (.invokevirtual 92, 3) := by decide +kernel
theorem dL_runScript_9 : decode cL_runScript 9 = .ok (.i2l, 1) := by decide +kernel
theorem dL_runScript_10 : decode cL_runScript 10 = .ok (.lastore, 1) := by decide +kernel
theorem dL_runScript_11 : decode cL_runScript 11 = .ok (.goto 7, 3) := by decide +kernel
theorem dL_runScript_14 : decode cL_runScript 14 = .ok (.astore 5, 2) := by decide +kernel
theorem dL_runScript_16 : decode cL_runScript 16 = .ok (.iconst 1, 1) := by decide +kernel
theorem dL_runScript_17 : decode cL_runScript 17 = .ok (.ireturn, 1) := by decide +kernel
theorem dL_runScript_18 : decode cL_runScript 18 = .ok (.iconst 0, 1) := by decide +kernel
theorem dL_runScript_19 : decode cL_runScript 19 = .ok (.ireturn, 1) := by decide +kernel
set_option maxRecDepth 20000 in
theorem ggL_simulate_X8_simulate : GoodIn wsL_simulate wsX8_simulate := goodIn_ca (goodIn_r _ [6, 7, 8, 9, 10, 11, 12, 13, 14, 15, 16, 17, 18, 19, 20, 21, 22, 23, 24, 25, 26, 27, 28, 29, 30, 31, 32, 33, 34, 35, 36, 37, 38, 39, 40, 41, 42, 43, 44, 45, 46, 47, 48, 49, 50, 51, 52, 53, 54, 55, 56, 57, 58, 59, 60, 61, 62, 63, 64, 65, 66, 5, 67, 68, 69, 70, 71, 72, 73, 74, 75, 76, 77, 78, 79, 80, 81, 82, 83, 84, 85, 86, 87, 88, 89, 90, 91, 92, 93, 94, 95, 96, 97, 98, 99, 100, 101, 102, 103, 104, 105, 106, 107, 108, 109, 110, 111, 112, 113, 114, 115, 116, 117, 118, 119, 120, 121, 122, 123, 124, 125, 126, 127, 128, 129, 130, 131, 132, 133, 134, 135, 136, 137, 138, 139, 140, 141, 142, 143, 144, 145, 146, 147, 148, 149, 150, 151, 152, 153, 154, 155, 156, 157, 158, 159, 160, 161, 162, 163, 164, 165, 166, 167, 168, 169, 170, 171, 172, 173, 174, 175, 176, 177, 178, 179, 180, 181, 182, 183, 184, 185, 186, 187, 188, 189, 190, 191, 192, 193, 194, 195, 196, 197, 198, 199, 200, 201, 202, 203, 204, 205, 206, 207, 208, 209, 210, 211, 212, 213, 214, 215, 216, 217, 218, 219, 220, 221, 222, 223, 224, 225, 226, 227, 228, 229, 230, 231, 232, 233, 234, 235, 236] (by decide +kernel) (by decide +kernel)) (goodIn_sub (fun _ h => List.mem_cons_of_mem _ (List.mem_append_right _ h)) (by decide +kernel))
set_option maxRecDepth 20000 in
theorem gL_simulate_X8_simulate : GoodIn wsL_simulate (wsV RL 96 RX8 yX8_simulate wsX8_simulate) := goodIn_app (goodIn_of _ (by decide +kernel)) ggL_simulate_X8_simulate
theorem dL_simulate_0 : decode cL_simulate 0 = .ok (.aload 4, 2) := by decide +kernel
theorem dL_simulate_2 : decode cL_simulate 2 = .ok (.iconst 0, 1) := by decide +kernel
theorem dL_simulate_3 : decode cL_simulate 3 = .ok (.aload_n 0, 1) := by decide +kernel
theorem dL_simulate_4 : decode cL_simulate 4 = .ok (.lload_n 1, 1) := by decide +kernel
theorem dL_simulate_5 : decode cL_simulate 5 = .ok (.iload_n 3, 1) := by decide +kernel
theorem dL_simulate_6 : decode cL_simulate 6 = .ok (.invokevirtual 96, 3) := by decide +kernel
theorem dL_simulate_9 : decode cL_simulate 9 = .ok (.i2l, 1) := by decide +kernel
theorem dL_simulate_10 : decode cL_simulate 10 = .ok (.lastore, 1) := by decide +kernel
theorem dL_simulate_11 : decode cL_simulate 11 = .ok (.goto 7, 3) := by decide +kernel
theorem dL_simulate_14 : decode cL_simulate 14 = .ok (.astore 5, 2) := by decide +kernel
theorem dL_simulate_16 : decode cL_simulate 16 = .ok (.iconst 1, 1) := by decide +kernel
theorem dL_simulate_17 : decode cL_simulate 17 = .ok (.ireturn, 1) := by decide +kernel
theorem dL_simulate_18 : decode cL_simulate 18 = .ok (.iconst 0, 1) := by decide +kernel
theorem dL_simulate_19 : decode cL_simulate 19 = .ok (.ireturn, 1) := by decide +kernel
set_option maxRecDepth 20000 in
theorem ggL_save_X8_save : GoodIn wsL_save wsX8_save := goodIn_ca (goodIn_r _ [6, 7, 8, 9, 10, 11, 12, 13, 5, 14, 15, 16, 17, 18, 19, 20, 21, 22, 23, 24, 25, 26, 27, 28, 29, 30, 31, 32, 33, 34, 35, 36, 37, 38, 39, 40, 41, 42, 43, 44, 45, 46, 47, 48, 49, 50, 51, 52, 53, 54, 55, 56, 57, 58, 59, 60, 61, 62, 63, 64, 65, 66, 67, 68, 69, 70, 71, 72, 73, 74, 75, 76, 77, 78, 79, 80, 81] (by decide +kernel) (by decide +kernel)) (goodIn_sub (fun _ h => List.mem_cons_of_mem _ (List.mem_append_right _ h)) (by decide +kernel))
set_option maxRecDepth 20000 in
theorem gL_save_X8_save : GoodIn wsL_save (wsV RL 100 RX8 yX8_save wsX8_save) := goodIn_app (goodIn_of _ (by decide +kernel)) ggL_save_X8_save
theorem dL_save_0 : decode cL_save 0 = .ok (.aload_n 2, 1) := by decide +kernel
theorem dL_save_1 : decode cL_save 1 = .ok (.iconst 0, 1) := by decide +kernel
theorem dL_save_2 : decode cL_save 2 = .ok (.aload_n 0, 1) := by decide +kernel
theorem dL_save_3 : decode cL_save 3 = .ok (.iload_n 1, 1) := by decide +kernel
theorem dL_save_4 : decode cL_save 4 = .ok (.invokevirtual 100, 3) := by decide +kernel
theorem dL_save_7 : decode cL_save 7 = .ok (.i2l, 1) := by decide +kernel
theorem dL_save_8 : decode cL_save 8 = .ok (.lastore, 1) := by decide +kernel
theorem dL_save_9 : decode cL_save 9 = .ok (.goto 6, 3) := by decide +kernel
theorem dL_save_12 : decode cL_save 12 = .ok (.astore_n 3, 1) := by decide +kernel
theorem dL_save_13 : decode cL_save 13 = .ok (.iconst 1, 1) := by decide +kernel
theorem dL_save_14 : decode cL_save 14 = .ok (.ireturn, 1) := by decide +kernel
theorem dL_save_15 : decode cL_save 15 = .ok (.iconst 0, 1) := by decide +kernel
theorem dL_save_16 : decode cL_save 16 = .ok (.ireturn, 1) := by decide +kernel
set_option maxRecDepth 20000 in
theorem ggL_restore_X8_restore : GoodIn wsL_restore wsX8_restore := goodIn_ca (goodIn_ca (goodIn_r _ [7, 8, 9, 10, 11, 12, 13, 14, 15, 16, 17, 6, 18, 19, 20, 21, 22, 23, 24, 25, 26, 27, 28, 29, 30, 31, 32, 33, 34, 35, 36, 37, 38, 39, 40, 41, 42, 43, 44, 45, 46, 47, 48, 49, 50, 51, 52, 53, 54, 55, 56, 57, 58, 59, 60, 61, 62, 63, 64, 65, 66, 67, 68, 69, 70, 71, 72, 73, 74, 75, 76, 77, 78, 79, 80, 81, 82, 83, 84, 85, 86, 87, 88, 89, 90, 91, 92, 93] (by decide +kernel) (by decide +kernel)) (goodIn_sub (fun _ h => List.mem_cons_of_mem _ (List.mem_append_left _ (List.mem_append_right _ h))) (by decide +kernel))) (goodIn_sub (fun _ h => List.mem_cons_of_mem _ (List.mem_append_right _ h)) (by decide +kernel))
set_option maxRecDepth 20000 in
theorem gL_restore_X8_restore : GoodIn wsL_restore (wsV RL 103 RX8 yX8_restore wsX8_restore) := goodIn_app (goodIn_of _ (by decide +kernel)) ggL_restore_X8_restore
theorem dL_restore_0 : decode cL_restore 0 = .ok (.aload_n 2, 1) := by decide +kernel
theorem dL_restore_1 : decode cL_restore 1 = .ok (.iconst 0, 1) := by decide +kernel
theorem dL_restore_2 : decode cL_restore 2 = .ok (.aload_n 0, 1) := by decide +kernel
theorem dL_restore_3 : decode cL_restore 3 = .ok (.iload_n 1, 1) := by decide +kernel
theorem dL_restore_4 : decode cL_restore 4 = .ok (.invokevirtual 103, 3) := by decide +kernel
theorem dL_restore_7 : decode cL_restore 7 = .ok (.i2l, 1) := by decide +kernel
theorem dL_restore_8 : decode cL_restore 8 = .ok (.lastore, 1) := by decide +kernel
theorem dL_restore_9 : decode cL_restore 9 = .ok (.goto 9, 3) := by decide +kernel
theorem dL_restore_12 : decode cL_restore 12 = .ok (.astore_n 3, 1) := by decide +kernel
theorem dL_restore_13 : decode cL_restore 13 = .ok (.iconst 1, 1) := by decide +kernel
theorem dL_restore_14 : decode cL_restore 14 = .ok (.ireturn, 1) := by decide +kernel
theorem dL_restore_15 : decode cL_restore 15 = .ok (.astore_n 3, 1) := by decide +kernel
theorem dL_restore_16 : decode cL_restore 16 = .ok (.iconst 2, 1) := by decide +kernel
theorem dL_restore_17 : decode cL_restore 17 = .ok (.ireturn, 1) := by decide +kernel
theorem dL_restore_18 : decode cL_restore 18 = .ok (.iconst 0, 1) := by decide +kernel
theorem dL_restore_19 : decode cL_restore 19 = .ok (.ireturn, 1) := by decide +kernel
