/-! p35: the words of the law, by chunk, in the table -/
theorem in_wsX80 : GoodIn lw_tbl wsX80 := goodIn_r _ [281, 283, 285, 287, 289, 291] (by decide +kernel) (by decide +kernel)
theorem in_wsX60 : GoodIn lw_tbl wsX60 := goodIn_r _ [122, 124, 126, 128, 130, 132, 134] (by decide +kernel) (by decide +kernel)
theorem in_wsX50 : GoodIn lw_tbl wsX50 := goodIn_r _ [236, 238, 240, 242, 244, 246, 248, 250, 252] (by decide +kernel) (by decide +kernel)
theorem in_wsX20 : GoodIn lw_tbl wsX20 := goodIn_r _ [268, 270, 272] (by decide +kernel) (by decide +kernel)
theorem in_wsX70 : GoodIn lw_tbl wsX70 := goodIn_r _ [170, 172, 174, 176, 178, 180] (by decide +kernel) (by decide +kernel)
theorem in_wsX00 : GoodIn lw_tbl wsX00 := goodIn_r _ [193, 195, 197] (by decide +kernel) (by decide +kernel)
theorem in_wsX10 : GoodIn lw_tbl wsX10 := goodIn_r _ [207] (by decide +kernel) (by decide +kernel)
theorem tb_in {k : Nat} {L : List Cond} (h : (List.map (fun x => x) [tables_1_1, tables_1_2, tables_1_3, tables_1_4, tables_1_5])[k]? = some L) {w : Cond} (hw : w ∈ L) : w ∈ lw_tbl := by
  refine List.mem_append_right _ ?_
  show w ∈ tables_1_1 ++ (tables_1_2 ++ (tables_1_3 ++ (tables_1_4 ++ tables_1_5)))
  have hm := List.mem_of_getElem? h
  simp only [List.map, List.mem_cons, List.not_mem_nil, or_false] at hm
  rcases hm with rfl | rfl | rfl | rfl | rfl
  · exact List.mem_append_left _ hw
  · exact List.mem_append_right _ (List.mem_append_left _ hw)
  · exact List.mem_append_right _ (List.mem_append_right _ (List.mem_append_left _ hw))
  · exact List.mem_append_right _ (List.mem_append_right _ (List.mem_append_right _ (List.mem_append_left _ hw)))
  · exact List.mem_append_right _ (List.mem_append_right _ (List.mem_append_right _ (List.mem_append_right _ hw)))
theorem gd_one {big : List Cond} {w : Cond} (h : w ∈ big) (g : goodWord w = true) : GoodIn big [w] := fun v hv => by
  rw [List.mem_singleton.mp hv]
  exact ⟨h, good_of_word g⟩
set_option maxRecDepth 20000 in
theorem in_wsL_law0_r1 : GoodIn lw_tbl wsL_law0_r1 := goodIn_r _ [96, 97, 74, 1096, 1097, 1098, 98, 99, 100, 101, 102, 103, 104, 105, 75, 275, 138, 139, 76, 276, 277, 255, 256, 81] (by decide +kernel) (by decide +kernel)
set_option maxRecDepth 20000 in
theorem in_wsL_law0_r2 : GoodIn lw_tbl wsL_law0_r2 := goodIn_r _ [278, 279, 294, 280, 107, 108, 109, 137, 110, 141, 142, 143, 144, 145, 77, 215, 183, 184, 78, 219, 200, 201, 79, 221] (by decide +kernel) (by decide +kernel)
set_option maxRecDepth 20000 in
theorem in_wsL_law0_r3 : GoodIn lw_tbl wsL_law0_r3 := goodIn_r _ [223, 226, 212, 214, 213, 80, 147, 148, 149, 150, 153, 156, 160, 163, 186, 187, 188, 189, 190, 191, 203, 204, 205, 206] (by decide +kernel) (by decide +kernel)
set_option maxRecDepth 100000 in
theorem tbw_call : tables_1_3[71]? = some (Cond.code yL_call cL_call 5 (some .int)) := rfl
theorem tbg_call : GoodIn lw_tbl [Cond.code yL_call cL_call 5 (some .int)] := gd_one (tb_in (k := 2) rfl (List.mem_of_getElem? tbw_call)) rfl
set_option maxRecDepth 100000 in
theorem tbw_refuses : tables_1_3[68]? = some (Cond.code yL_refuses cL_refuses 8 (some .boolean)) := rfl
theorem tbg_refuses : GoodIn lw_tbl [Cond.code yL_refuses cL_refuses 8 (some .boolean)] := gd_one (tb_in (k := 2) rfl (List.mem_of_getElem? tbw_refuses)) rfl
set_option maxRecDepth 20000 in
theorem in_wsL_law0_r4 : GoodIn lw_tbl wsL_law0_r4 := goodIn_app (a := [Cond.instanceMethod yX2_init, Cond.code yX2_init cX2_init 2 none, Cond.methodLink RX2 3 objectInit, Cond.classLink RX2 11 RX5, Cond.fieldLink RX2 13 "SparePool$History" "kept" "[LSparePool$State;", Cond.methodLink RL 224 yL_cell, Cond.static yL_cell, Cond.initialized RL, Cond.code yL_cell cL_cell 2 (some .int), Cond.constant RL 187 (15518519), Cond.constant RL 188 (2147483647), Cond.methodLink RL 228 yL_refuses, Cond.static yL_refuses]) (goodIn_r [Cond.instanceMethod yX2_init, Cond.code yX2_init cX2_init 2 none, Cond.methodLink RX2 3 objectInit, Cond.classLink RX2 11 RX5, Cond.fieldLink RX2 13 "SparePool$History" "kept" "[LSparePool$State;", Cond.methodLink RL 224 yL_cell, Cond.static yL_cell, Cond.initialized RL, Cond.code yL_cell cL_cell 2 (some .int), Cond.constant RL 187 (15518519), Cond.constant RL 188 (2147483647), Cond.methodLink RL 228 yL_refuses, Cond.static yL_refuses] [258, 259, 260, 261, 264, 614, 615, 73, 616, 617, 618, 619, 620] (by decide +kernel) (by decide +kernel)) (goodIn_app (a := [Cond.code yL_refuses cL_refuses 8 (some .boolean)]) tbg_refuses (goodIn_app (a := [Cond.constant RL 28 (-9999002), Cond.constant RL 15 (-9999001), Cond.constant RL 21 (-9999003), Cond.constantLong RL 203 (1000000), Cond.constantLong RL 205 (-1), Cond.methodLink RL 189 yL_call, Cond.static yL_call]) (goodIn_r [Cond.constant RL 28 (-9999002), Cond.constant RL 15 (-9999001), Cond.constant RL 21 (-9999003), Cond.constantLong RL 203 (1000000), Cond.constantLong RL 205 (-1), Cond.methodLink RL 189 yL_call, Cond.static yL_call] [520, 819, 652, 1058, 1059, 622, 623] (by decide +kernel) (by decide +kernel)) (goodIn_app (a := [Cond.code yL_call cL_call 5 (some .int)]) tbg_call ((goodIn_r [Cond.methodLink RL 109 yL_tryAppend, Cond.static yL_tryAppend] [625, 626] (by decide +kernel) (by decide +kernel))))))
set_option maxRecDepth 20000 in
theorem in_wsL_law0_r5 : GoodIn lw_tbl wsL_law0_r5 := goodIn_r _ [627, 298, 628, 629, 630, 631, 632, 307, 85, 633, 86, 650, 44, 651, 111, 653, 654, 655, 656, 657, 658, 659, 662, 45] (by decide +kernel) (by decide +kernel)
set_option maxRecDepth 20000 in
theorem in_wsL_law0_r6 : GoodIn lw_tbl wsL_law0_r6 := goodIn_r _ [663, 121, 664, 666, 46, 667, 113, 668, 669, 670, 678, 679, 680, 87, 681, 1100, 682, 683, 684, 685, 686, 687, 688, 689] (by decide +kernel) (by decide +kernel)
set_option maxRecDepth 20000 in
theorem in_wsL_law0_r7 : GoodIn lw_tbl wsL_law0_r7 := goodIn_r _ [690, 1101, 692, 693, 694, 695, 696, 697, 698, 699, 700, 701, 88, 702, 703, 704, 705, 706, 708, 709, 89, 710, 711, 712] (by decide +kernel) (by decide +kernel)
set_option maxRecDepth 20000 in
theorem in_wsL_law0_r8 : GoodIn lw_tbl wsL_law0_r8 := goodIn_r _ [90, 713, 714, 715, 716, 717, 718, 719, 720, 721, 722, 723, 724, 726, 728, 730, 732, 47, 733, 734, 735, 736, 737, 738] (by decide +kernel) (by decide +kernel)
set_option maxRecDepth 20000 in
theorem in_wsL_law0_r9 : GoodIn lw_tbl wsL_law0_r9 := goodIn_r _ [739, 740, 741, 742, 743, 745, 48, 746, 115, 117, 119, 749, 49, 750, 228, 230, 232, 234, 753, 50, 754, 757, 51, 758] (by decide +kernel) (by decide +kernel)
set_option maxRecDepth 20000 in
theorem in_wsL_law0_r10 : GoodIn lw_tbl wsL_law0_r10 := goodIn_r _ [761, 52, 762, 266, 763, 765, 53, 766, 768, 770, 54, 771, 537, 27, 538, 493, 494, 405, 406, 542, 28, 543, 168, 544] (by decide +kernel) (by decide +kernel)
set_option maxRecDepth 20000 in
theorem in_wsL_law0_r11 : GoodIn lw_tbl wsL_law0_r11 := goodIn_r _ [436, 12, 437, 414, 402, 6, 403, 398, 5, 399, 408, 409, 412, 7, 413, 417, 8, 418, 419, 421, 9, 422, 423, 425] (by decide +kernel) (by decide +kernel)
set_option maxRecDepth 20000 in
theorem in_wsL_law0_r12 : GoodIn lw_tbl wsL_law0_r12 := goodIn_r _ [10, 426, 427, 428, 91, 429, 430, 432, 11, 433, 440, 13, 441, 444, 14, 445, 446, 449, 15, 450, 451, 453, 16, 454] (by decide +kernel) (by decide +kernel)
set_option maxRecDepth 20000 in
theorem in_wsL_law0_r13 : GoodIn lw_tbl wsL_law0_r13 := goodIn_r _ [455, 457, 17, 458, 461, 18, 462, 463, 464, 92, 465, 466, 467, 468, 471, 19, 472, 474, 475, 478, 20, 479, 482, 21] (by decide +kernel) (by decide +kernel)
set_option maxRecDepth 20000 in
theorem in_wsL_law0_r14 : GoodIn lw_tbl wsL_law0_r14 := goodIn_r _ [483, 486, 22, 487, 488, 489, 490, 498, 23, 499, 502, 24, 503, 778, 779, 780, 781, 782, 783, 784, 518, 26, 519, 787] (by decide +kernel) (by decide +kernel)
set_option maxRecDepth 20000 in
theorem in_wsL_law0_r15 : GoodIn lw_tbl wsL_law0_r15 := goodIn_r _ [55, 788, 791, 56, 792, 600, 40, 601, 604, 41, 605, 606, 608, 42, 609, 610, 612, 43, 613, 793, 794, 795, 796, 797] (by decide +kernel) (by decide +kernel)
set_option maxRecDepth 20000 in
theorem in_wsL_law0_r16 : GoodIn lw_tbl wsL_law0_r16 := goodIn_r _ [798, 799, 800, 802, 93, 820, 821, 822, 823, 824, 825, 826, 827, 830, 57, 831, 834, 58, 835, 838, 59, 839, 843, 60] (by decide +kernel) (by decide +kernel)
set_option maxRecDepth 20000 in
theorem in_wsL_law0_r17 : GoodIn lw_tbl wsL_law0_r17 := goodIn_r _ [844, 845, 846, 847, 848, 849, 850, 851, 572, 34, 573, 574, 576, 35, 577, 580, 36, 581, 854, 855, 856, 857, 858, 859] (by decide +kernel) (by decide +kernel)
set_option maxRecDepth 20000 in
theorem in_wsL_law0_r18 : GoodIn lw_tbl wsL_law0_r18 := goodIn_r _ [860, 861, 862, 863, 864, 865, 866, 867, 868, 869, 870, 873, 61, 874, 265, 372, 1, 373, 376, 2, 377, 378, 381, 3] (by decide +kernel) (by decide +kernel)
set_option maxRecDepth 20000 in
theorem in_wsL_law0_r19 : GoodIn lw_tbl wsL_law0_r19 := goodIn_r _ [382, 383, 386, 4, 387, 388, 876, 878, 62, 879, 882, 63, 883, 884, 885, 886, 887, 888, 889, 890, 891, 892, 893, 894] (by decide +kernel) (by decide +kernel)
set_option maxRecDepth 20000 in
theorem in_wsL_law0_r20 : GoodIn lw_tbl wsL_law0_r20 := goodIn_r _ [895, 896, 897, 898, 899, 900, 901, 902, 903, 904, 905, 906, 907, 908, 909, 910, 911, 550, 29, 551, 554, 30, 555, 559] (by decide +kernel) (by decide +kernel)
set_option maxRecDepth 20000 in
theorem in_wsL_law0_r21 : GoodIn lw_tbl wsL_law0_r21 := goodIn_r _ [31, 560, 561, 913, 914, 915, 916, 917, 918, 919, 564, 32, 565, 568, 33, 569, 570, 584, 37, 585, 921, 922, 923, 924] (by decide +kernel) (by decide +kernel)
set_option maxRecDepth 20000 in
theorem in_wsL_law0_r22 : GoodIn lw_tbl wsL_law0_r22 := goodIn_r _ [925, 926, 927, 928, 929, 930, 931, 932, 933, 934, 506, 25, 507, 936, 937, 938, 939, 940, 941, 942, 943, 944, 945, 946] (by decide +kernel) (by decide +kernel)
set_option maxRecDepth 20000 in
theorem in_wsL_law0_r23 : GoodIn lw_tbl wsL_law0_r23 := goodIn_r _ [947, 948, 949, 952, 64, 953, 957, 958, 959, 960, 961, 962, 963, 966, 65, 967, 968, 969, 970, 971, 972, 973, 974, 975] (by decide +kernel) (by decide +kernel)
set_option maxRecDepth 20000 in
theorem in_wsL_law0_r24 : GoodIn lw_tbl wsL_law0_r24 := goodIn_r _ [978, 66, 979, 982, 983, 984, 980, 981, 985, 986, 987, 988, 989, 990, 991, 994, 67, 995, 996, 997, 999, 68, 1000, 1001] (by decide +kernel) (by decide +kernel)
set_option maxRecDepth 20000 in
theorem in_wsL_law0_r25 : GoodIn lw_tbl wsL_law0_r25 := goodIn_r _ [1002, 1003, 1004, 1005, 1006, 1007, 1008, 1011, 69, 1012, 1013, 1014, 1015, 1016, 1017, 1018, 1019, 1022, 70, 1023, 1024, 1025, 1026, 1027] (by decide +kernel) (by decide +kernel)
set_option maxRecDepth 20000 in
theorem in_wsL_law0_r26 : GoodIn lw_tbl wsL_law0_r26 := goodIn_r _ [1028, 1029, 1030, 1031, 1032, 1033, 1034, 1035, 1036, 1037, 1038, 1039, 1040, 1041, 1042, 1043, 1044, 1045, 1046, 1047, 1048, 1050, 1051, 1052] (by decide +kernel) (by decide +kernel)
set_option maxRecDepth 20000 in
theorem in_wsL_law0_r27 : GoodIn lw_tbl wsL_law0_r27 := goodIn_r _ [1053, 1054, 1055, 1056, 590, 38, 591, 594, 39, 595, 295, 296, 297, 299, 300, 301, 302, 304, 94, 305, 306, 390, 391, 393] (by decide +kernel) (by decide +kernel)
set_option maxRecDepth 20000 in
theorem in_wsL_law0_r28 : GoodIn lw_tbl wsL_law0_r28 := goodIn_r _ [394, 395, 508, 509, 510, 513, 514, 515, 521, 522, 523, 524, 525, 526, 527, 528, 529, 531, 95, 532, 533, 534, 1060, 1061] (by decide +kernel) (by decide +kernel)
set_option maxRecDepth 100000 in
theorem tbw_alike : tables_1_5[33]? = some (Cond.code yL_alike cL_alike 6 (some .boolean)) := rfl
theorem tbg_alike : GoodIn lw_tbl [Cond.code yL_alike cL_alike 6 (some .boolean)] := gd_one (tb_in (k := 4) rfl (List.mem_of_getElem? tbw_alike)) rfl
set_option maxRecDepth 100000 in
theorem tbw_act : tables_1_5[58]? = some (Cond.code yL_act cL_act 7 (some .int)) := rfl
theorem tbg_act : GoodIn lw_tbl [Cond.code yL_act cL_act 7 (some .int)] := gd_one (tb_in (k := 4) rfl (List.mem_of_getElem? tbw_act)) rfl
set_option maxRecDepth 20000 in
theorem in_wsL_law0_r29 : GoodIn lw_tbl wsL_law0_r29 := goodIn_app (a := [Cond.selects RX8 yX8_errorPosition yX8_errorPosition, Cond.code yX8_errorPosition cX8_errorPosition 1 (some .int), Cond.methodLink RL 232 yL_act, Cond.static yL_act]) (goodIn_r [Cond.selects RX8 yX8_errorPosition yX8_errorPosition, Cond.code yX8_errorPosition cX8_errorPosition 1 (some .int), Cond.methodLink RL 232 yL_act, Cond.static yL_act] [1062, 1063, 1089, 1090] (by decide +kernel) (by decide +kernel)) (goodIn_app (a := [Cond.code yL_act cL_act 7 (some .int)]) tbg_act (goodIn_app (a := [Cond.methodLink RL 220 yX8_clearText, Cond.instanceMethod yX8_clearText, Cond.selects RX8 yX8_clearText yX8_clearText, Cond.code yX8_clearText cX8_clearText 2 (some .int), Cond.methodLink RL 235 yL_alike, Cond.static yL_alike]) (goodIn_r [Cond.methodLink RL 220 yX8_clearText, Cond.instanceMethod yX8_clearText, Cond.selects RX8 yX8_clearText yX8_clearText, Cond.code yX8_clearText cX8_clearText 2 (some .int), Cond.methodLink RL 235 yL_alike, Cond.static yL_alike] [1092, 1093, 1094, 1095, 1064, 1065] (by decide +kernel) (by decide +kernel)) (goodIn_app (a := [Cond.code yL_alike cL_alike 6 (some .boolean)]) tbg_alike ((goodIn_r [Cond.methodLink RL 214 yX8_firstDue, Cond.instanceMethod yX8_firstDue, Cond.selects RX8 yX8_firstDue yX8_firstDue, Cond.code yX8_firstDue cX8_firstDue 1 (some .int), Cond.instanceMethod yX7_dueFirst, Cond.selects RX7 yX7_dueFirst yX7_dueFirst, Cond.code yX7_dueFirst cX7_dueFirst 3 (some .int), Cond.methodLink RL 217 yX8_inDebt, Cond.instanceMethod yX8_inDebt, Cond.selects RX8 yX8_inDebt yX8_inDebt, Cond.code yX8_inDebt cX8_inDebt 3 (some .int), Cond.instanceMethod yX5_accountWhenAllIsSettled] [1067, 1068, 1069, 1070, 1073, 71, 1074, 1075, 1076, 1077, 1078, 1081] (by decide +kernel) (by decide +kernel))))))
set_option maxRecDepth 100000 in
theorem tbw_holds : tables_1_5[55]? = some (Cond.code yL_holds cL_holds 28 (some .boolean)) := rfl
theorem tbg_holds : GoodIn lw_tbl [Cond.code yL_holds cL_holds 28 (some .boolean)] := gd_one (tb_in (k := 4) rfl (List.mem_of_getElem? tbw_holds)) rfl
set_option maxRecDepth 20000 in
theorem in_wsL_law0_r30 : GoodIn lw_tbl wsL_law0_r30 := goodIn_app (a := [Cond.selects RX5 yX5_accountWhenAllIsSettled yX5_accountWhenAllIsSettled, Cond.code yX5_accountWhenAllIsSettled cX5_accountWhenAllIsSettled 3 (some .int), Cond.methodLink RX5 194 yX5_feesToPay, Cond.methodLink RL 239 yL_holds, Cond.static yL_holds]) (goodIn_r [Cond.selects RX5 yX5_accountWhenAllIsSettled yX5_accountWhenAllIsSettled, Cond.code yX5_accountWhenAllIsSettled cX5_accountWhenAllIsSettled 3 (some .int), Cond.methodLink RX5 194 yX5_feesToPay, Cond.methodLink RL 239 yL_holds, Cond.static yL_holds] [72, 1082, 1085, 1086, 1087] (by decide +kernel) (by decide +kernel)) (tbg_holds)
