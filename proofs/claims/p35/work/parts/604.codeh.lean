/-! the helpers of the law: decode rows, words -/
theorem dL_tryOwed_0 : decode cL_tryOwed 0 = .ok (.aload_n 0, 1) := by decide +kernel
theorem dL_tryOwed_1 : decode cL_tryOwed 1 = .ok (.iload_n 1, 1) := by decide +kernel
theorem dL_tryOwed_2 : decode cL_tryOwed 2 = .ok (.iload_n 2, 1) := by decide +kernel
theorem dL_tryOwed_3 : decode cL_tryOwed 3 = .ok (.iload_n 3, 1) := by decide +kernel
theorem dL_tryOwed_4 : decode cL_tryOwed 4 = .ok (.iload 4, 2) := by decide +kernel
theorem dL_tryOwed_6 : decode cL_tryOwed 6 = .ok (.invokevirtual 7, 3) := by decide +kernel
theorem dL_tryOwed_9 : decode cL_tryOwed 9 = .ok (.ireturn, 1) := by decide +kernel
theorem dL_tryOwed_10 : decode cL_tryOwed 10 = .ok (.astore 5, 2) := by decide +kernel
theorem dL_tryOwed_12 : decode cL_tryOwed 12 = .ok (.ldc 15, 2) := by decide +kernel
theorem dL_tryOwed_14 : decode cL_tryOwed 14 = .ok (.ireturn, 1) := by decide +kernel
theorem dL_trySettle_0 : decode cL_trySettle 0 = .ok (.aload_n 0, 1) := by decide +kernel
theorem dL_trySettle_1 : decode cL_trySettle 1 = .ok (.iload_n 1, 1) := by decide +kernel
theorem dL_trySettle_2 : decode cL_trySettle 2 = .ok (.iload_n 2, 1) := by decide +kernel
theorem dL_trySettle_3 : decode cL_trySettle 3 = .ok (.iload_n 3, 1) := by decide +kernel
theorem dL_trySettle_4 : decode cL_trySettle 4 = .ok (.iload 4, 2) := by decide +kernel
theorem dL_trySettle_6 : decode cL_trySettle 6 = .ok (.invokevirtual 16, 3) := by decide +kernel
theorem dL_trySettle_9 : decode cL_trySettle 9 = .ok (.ireturn, 1) := by decide +kernel
theorem dL_trySettle_10 : decode cL_trySettle 10 = .ok (.astore 5, 2) := by decide +kernel
theorem dL_trySettle_12 : decode cL_trySettle 12 = .ok (.ldc 15, 2) := by decide +kernel
theorem dL_trySettle_14 : decode cL_trySettle 14 = .ok (.ireturn, 1) := by decide +kernel
theorem dL_trySettle_15 : decode cL_trySettle 15 = .ok (.astore 5, 2) := by decide +kernel
theorem dL_trySettle_17 : decode cL_trySettle 17 = .ok (.ldc 21, 2) := by decide +kernel
theorem dL_trySettle_19 : decode cL_trySettle 19 = .ok (.ireturn, 1) := by decide +kernel
theorem dL_tryScript_0 : decode cL_tryScript 0 = .ok (.aload_n 0, 1) := by decide +kernel
theorem dL_tryScript_1 : decode cL_tryScript 1 = .ok (.iload_n 1, 1) := by decide +kernel
theorem dL_tryScript_2 : decode cL_tryScript 2 = .ok (.lload_n 2, 1) := by decide +kernel
theorem dL_tryScript_3 : decode cL_tryScript 3 = .ok (.invokevirtual 22, 3) := by decide +kernel
theorem dL_tryScript_6 : decode cL_tryScript 6 = .ok (.ireturn, 1) := by decide +kernel
theorem dL_tryScript_7 : decode cL_tryScript 7 = .ok (.astore 4, 2) := by decide +kernel
theorem dL_tryScript_9 : decode cL_tryScript 9 = .ok (.ldc 28, 2) := by decide +kernel
theorem dL_tryScript_11 : decode cL_tryScript 11 = .ok (.ireturn, 1) := by decide +kernel
theorem dL_trySimulate_0 : decode cL_trySimulate 0 = .ok (.aload_n 0, 1) := by decide +kernel
theorem dL_trySimulate_1 : decode cL_trySimulate 1 = .ok (.lload_n 1, 1) := by decide +kernel
theorem dL_trySimulate_2 : decode cL_trySimulate 2 = .ok (.iload_n 3, 1) := by decide +kernel
theorem dL_trySimulate_3 : decode cL_trySimulate 3 = .ok (.invokevirtual 29, 3) := by decide +kernel
theorem dL_trySimulate_6 : decode cL_trySimulate 6 = .ok (.ireturn, 1) := by decide +kernel
theorem dL_trySimulate_7 : decode cL_trySimulate 7 = .ok (.astore 4, 2) := by decide +kernel
theorem dL_trySimulate_9 : decode cL_trySimulate 9 = .ok (.ldc 28, 2) := by decide +kernel
theorem dL_trySimulate_11 : decode cL_trySimulate 11 = .ok (.ireturn, 1) := by decide +kernel
theorem dL_tryAppend_0 : decode cL_tryAppend 0 = .ok (.aload_n 0, 1) := by decide +kernel
theorem dL_tryAppend_1 : decode cL_tryAppend 1 = .ok (.iload_n 1, 1) := by decide +kernel
theorem dL_tryAppend_2 : decode cL_tryAppend 2 = .ok (.invokevirtual 33, 3) := by decide +kernel
theorem dL_tryAppend_5 : decode cL_tryAppend 5 = .ok (.ireturn, 1) := by decide +kernel
theorem dL_tryAppend_6 : decode cL_tryAppend 6 = .ok (.astore_n 2, 1) := by decide +kernel
theorem dL_tryAppend_7 : decode cL_tryAppend 7 = .ok (.ldc 28, 2) := by decide +kernel
theorem dL_tryAppend_9 : decode cL_tryAppend 9 = .ok (.ireturn, 1) := by decide +kernel
theorem dL_tryAppend_10 : decode cL_tryAppend 10 = .ok (.astore_n 2, 1) := by decide +kernel
theorem dL_tryAppend_11 : decode cL_tryAppend 11 = .ok (.ldc 21, 2) := by decide +kernel
theorem dL_tryAppend_13 : decode cL_tryAppend 13 = .ok (.ireturn, 1) := by decide +kernel
theorem dL_tryLoad_0 : decode cL_tryLoad 0 = .ok (.aload_n 0, 1) := by decide +kernel
theorem dL_tryLoad_1 : decode cL_tryLoad 1 = .ok (.invokevirtual 37, 3) := by decide +kernel
theorem dL_tryLoad_4 : decode cL_tryLoad 4 = .ok (.ireturn, 1) := by decide +kernel
theorem dL_tryLoad_5 : decode cL_tryLoad 5 = .ok (.astore_n 1, 1) := by decide +kernel
theorem dL_tryLoad_6 : decode cL_tryLoad 6 = .ok (.ldc 21, 2) := by decide +kernel
theorem dL_tryLoad_8 : decode cL_tryLoad 8 = .ok (.ireturn, 1) := by decide +kernel
theorem dL_tryAbout_0 : decode cL_tryAbout 0 = .ok (.aload_n 0, 1) := by decide +kernel
theorem dL_tryAbout_1 : decode cL_tryAbout 1 = .ok (.iload_n 1, 1) := by decide +kernel
theorem dL_tryAbout_2 : decode cL_tryAbout 2 = .ok (.invokevirtual 41, 3) := by decide +kernel
theorem dL_tryAbout_5 : decode cL_tryAbout 5 = .ok (.ireturn, 1) := by decide +kernel
theorem dL_tryAbout_6 : decode cL_tryAbout 6 = .ok (.astore_n 2, 1) := by decide +kernel
theorem dL_tryAbout_7 : decode cL_tryAbout 7 = .ok (.ldc 28, 2) := by decide +kernel
theorem dL_tryAbout_9 : decode cL_tryAbout 9 = .ok (.ireturn, 1) := by decide +kernel
theorem dL_tryUnit_0 : decode cL_tryUnit 0 = .ok (.aload_n 0, 1) := by decide +kernel
theorem dL_tryUnit_1 : decode cL_tryUnit 1 = .ok (.iload_n 1, 1) := by decide +kernel
theorem dL_tryUnit_2 : decode cL_tryUnit 2 = .ok (.iload_n 2, 1) := by decide +kernel
theorem dL_tryUnit_3 : decode cL_tryUnit 3 = .ok (.invokevirtual 44, 3) := by decide +kernel
theorem dL_tryUnit_6 : decode cL_tryUnit 6 = .ok (.ireturn, 1) := by decide +kernel
theorem dL_tryUnit_7 : decode cL_tryUnit 7 = .ok (.astore_n 3, 1) := by decide +kernel
theorem dL_tryUnit_8 : decode cL_tryUnit 8 = .ok (.ldc 15, 2) := by decide +kernel
theorem dL_tryUnit_10 : decode cL_tryUnit 10 = .ok (.ireturn, 1) := by decide +kernel
theorem dL_tryUnit_11 : decode cL_tryUnit 11 = .ok (.astore_n 3, 1) := by decide +kernel
theorem dL_tryUnit_12 : decode cL_tryUnit 12 = .ok (.ldc 28, 2) := by decide +kernel
theorem dL_tryUnit_14 : decode cL_tryUnit 14 = .ok (.ireturn, 1) := by decide +kernel
theorem dL_tryHolder_0 : decode cL_tryHolder 0 = .ok (.aload_n 0, 1) := by decide +kernel
theorem dL_tryHolder_1 : decode cL_tryHolder 1 = .ok (.iload_n 1, 1) := by decide +kernel
theorem dL_tryHolder_2 : decode cL_tryHolder 2 = .ok (.iload_n 2, 1) := by decide +kernel
theorem dL_tryHolder_3 : decode cL_tryHolder 3 = .ok (.invokevirtual 48, 3) := by decide +kernel
theorem dL_tryHolder_6 : decode cL_tryHolder 6 = .ok (.ireturn, 1) := by decide +kernel
theorem dL_tryHolder_7 : decode cL_tryHolder 7 = .ok (.astore_n 3, 1) := by decide +kernel
theorem dL_tryHolder_8 : decode cL_tryHolder 8 = .ok (.ldc 15, 2) := by decide +kernel
theorem dL_tryHolder_10 : decode cL_tryHolder 10 = .ok (.ireturn, 1) := by decide +kernel
theorem dL_tryHolder_11 : decode cL_tryHolder 11 = .ok (.astore_n 3, 1) := by decide +kernel
theorem dL_tryHolder_12 : decode cL_tryHolder 12 = .ok (.ldc 28, 2) := by decide +kernel
theorem dL_tryHolder_14 : decode cL_tryHolder 14 = .ok (.ireturn, 1) := by decide +kernel
theorem dL_tryCore_0 : decode cL_tryCore 0 = .ok (.aload_n 0, 1) := by decide +kernel
theorem dL_tryCore_1 : decode cL_tryCore 1 = .ok (.iload_n 1, 1) := by decide +kernel
theorem dL_tryCore_2 : decode cL_tryCore 2 = .ok (.iload_n 2, 1) := by decide +kernel
theorem dL_tryCore_3 : decode cL_tryCore 3 = .ok (.iload_n 3, 1) := by decide +kernel
theorem dL_tryCore_4 : decode cL_tryCore 4 = .ok (.invokevirtual 51, 3) := by decide +kernel
theorem dL_tryCore_7 : decode cL_tryCore 7 = .ok (.ireturn, 1) := by decide +kernel
theorem dL_tryCore_8 : decode cL_tryCore 8 = .ok (.astore 4, 2) := by decide +kernel
theorem dL_tryCore_10 : decode cL_tryCore 10 = .ok (.ldc 15, 2) := by decide +kernel
theorem dL_tryCore_12 : decode cL_tryCore 12 = .ok (.ireturn, 1) := by decide +kernel
theorem dL_tryCore_13 : decode cL_tryCore 13 = .ok (.astore 4, 2) := by decide +kernel
theorem dL_tryCore_15 : decode cL_tryCore 15 = .ok (.ldc 28, 2) := by decide +kernel
theorem dL_tryCore_17 : decode cL_tryCore 17 = .ok (.ireturn, 1) := by decide +kernel
theorem dL_trySetting_0 : decode cL_trySetting 0 = .ok (.aload_n 0, 1) := by decide +kernel
theorem dL_trySetting_1 : decode cL_trySetting 1 = .ok (.iload_n 1, 1) := by decide +kernel
theorem dL_trySetting_2 : decode cL_trySetting 2 = .ok (.invokevirtual 55, 3) := by decide +kernel
theorem dL_trySetting_5 : decode cL_trySetting 5 = .ok (.ireturn, 1) := by decide +kernel
theorem dL_trySetting_6 : decode cL_trySetting 6 = .ok (.astore_n 2, 1) := by decide +kernel
theorem dL_trySetting_7 : decode cL_trySetting 7 = .ok (.ldc 28, 2) := by decide +kernel
theorem dL_trySetting_9 : decode cL_trySetting 9 = .ok (.ireturn, 1) := by decide +kernel
theorem dL_tryCome_0 : decode cL_tryCome 0 = .ok (.aload_n 0, 1) := by decide +kernel
theorem dL_tryCome_1 : decode cL_tryCome 1 = .ok (.iload_n 1, 1) := by decide +kernel
theorem dL_tryCome_2 : decode cL_tryCome 2 = .ok (.iload_n 2, 1) := by decide +kernel
theorem dL_tryCome_3 : decode cL_tryCome 3 = .ok (.iload_n 3, 1) := by decide +kernel
theorem dL_tryCome_4 : decode cL_tryCome 4 = .ok (.invokevirtual 58, 3) := by decide +kernel
theorem dL_tryCome_7 : decode cL_tryCome 7 = .ok (.ireturn, 1) := by decide +kernel
theorem dL_tryCome_8 : decode cL_tryCome 8 = .ok (.astore 4, 2) := by decide +kernel
theorem dL_tryCome_10 : decode cL_tryCome 10 = .ok (.ldc 15, 2) := by decide +kernel
theorem dL_tryCome_12 : decode cL_tryCome 12 = .ok (.ireturn, 1) := by decide +kernel
theorem dL_tryCome_13 : decode cL_tryCome 13 = .ok (.astore 4, 2) := by decide +kernel
theorem dL_tryCome_15 : decode cL_tryCome 15 = .ok (.ldc 28, 2) := by decide +kernel
theorem dL_tryCome_17 : decode cL_tryCome 17 = .ok (.ireturn, 1) := by decide +kernel
theorem dL_tryCome_18 : decode cL_tryCome 18 = .ok (.astore 4, 2) := by decide +kernel
theorem dL_tryCome_20 : decode cL_tryCome 20 = .ok (.ldc 21, 2) := by decide +kernel
theorem dL_tryCome_22 : decode cL_tryCome 22 = .ok (.ireturn, 1) := by decide +kernel
theorem dL_tryLend_0 : decode cL_tryLend 0 = .ok (.aload_n 0, 1) := by decide +kernel
theorem dL_tryLend_1 : decode cL_tryLend 1 = .ok (.iload_n 1, 1) := by decide +kernel
theorem dL_tryLend_2 : decode cL_tryLend 2 = .ok (.iload_n 2, 1) := by decide +kernel
theorem dL_tryLend_3 : decode cL_tryLend 3 = .ok (.iload_n 3, 1) := by decide +kernel
theorem dL_tryLend_4 : decode cL_tryLend 4 = .ok (.invokevirtual 61, 3) := by decide +kernel
theorem dL_tryLend_7 : decode cL_tryLend 7 = .ok (.ireturn, 1) := by decide +kernel
theorem dL_tryLend_8 : decode cL_tryLend 8 = .ok (.astore 4, 2) := by decide +kernel
theorem dL_tryLend_10 : decode cL_tryLend 10 = .ok (.ldc 15, 2) := by decide +kernel
theorem dL_tryLend_12 : decode cL_tryLend 12 = .ok (.ireturn, 1) := by decide +kernel
theorem dL_tryLend_13 : decode cL_tryLend 13 = .ok (.astore 4, 2) := by decide +kernel
theorem dL_tryLend_15 : decode cL_tryLend 15 = .ok (.ldc 28, 2) := by decide +kernel
theorem dL_tryLend_17 : decode cL_tryLend 17 = .ok (.ireturn, 1) := by decide +kernel
theorem dL_tryLend_18 : decode cL_tryLend 18 = .ok (.astore 4, 2) := by decide +kernel
theorem dL_tryLend_20 : decode cL_tryLend 20 = .ok (.ldc 21, 2) := by decide +kernel
theorem dL_tryLend_22 : decode cL_tryLend 22 = .ok (.ireturn, 1) := by decide +kernel
theorem dL_tryBring_0 : decode cL_tryBring 0 = .ok (.aload_n 0, 1) := by decide +kernel
theorem dL_tryBring_1 : decode cL_tryBring 1 = .ok (.iload_n 1, 1) := by decide +kernel
theorem dL_tryBring_2 : decode cL_tryBring 2 = .ok (.invokevirtual 64, 3) := by decide +kernel
theorem dL_tryBring_5 : decode cL_tryBring 5 = .ok (.ireturn, 1) := by decide +kernel
theorem dL_tryBring_6 : decode cL_tryBring 6 = .ok (.astore_n 2, 1) := by decide +kernel
theorem dL_tryBring_7 : decode cL_tryBring 7 = .ok (.ldc 15, 2) := by decide +kernel
theorem dL_tryBring_9 : decode cL_tryBring 9 = .ok (.ireturn, 1) := by decide +kernel
theorem dL_tryBring_10 : decode cL_tryBring 10 = .ok (.astore_n 2, 1) := by decide +kernel
theorem dL_tryBring_11 : decode cL_tryBring 11 = .ok (.ldc 21, 2) := by decide +kernel
theorem dL_tryBring_13 : decode cL_tryBring 13 = .ok (.ireturn, 1) := by decide +kernel
theorem dL_tryExchange_0 : decode cL_tryExchange 0 = .ok (.aload_n 0, 1) := by decide +kernel
theorem dL_tryExchange_1 : decode cL_tryExchange 1 = .ok (.iload_n 1, 1) := by decide +kernel
theorem dL_tryExchange_2 : decode cL_tryExchange 2 = .ok (.iload_n 2, 1) := by decide +kernel
theorem dL_tryExchange_3 : decode cL_tryExchange 3 = .ok (.invokevirtual 67, 3) := by decide +kernel
theorem dL_tryExchange_6 : decode cL_tryExchange 6 = .ok (.ireturn, 1) := by decide +kernel
theorem dL_tryExchange_7 : decode cL_tryExchange 7 = .ok (.astore_n 3, 1) := by decide +kernel
theorem dL_tryExchange_8 : decode cL_tryExchange 8 = .ok (.ldc 15, 2) := by decide +kernel
theorem dL_tryExchange_10 : decode cL_tryExchange 10 = .ok (.ireturn, 1) := by decide +kernel
theorem dL_tryExchange_11 : decode cL_tryExchange 11 = .ok (.astore_n 3, 1) := by decide +kernel
theorem dL_tryExchange_12 : decode cL_tryExchange 12 = .ok (.ldc 21, 2) := by decide +kernel
theorem dL_tryExchange_14 : decode cL_tryExchange 14 = .ok (.ireturn, 1) := by decide +kernel
theorem dL_tryAdvance_0 : decode cL_tryAdvance 0 = .ok (.aload_n 0, 1) := by decide +kernel
theorem dL_tryAdvance_1 : decode cL_tryAdvance 1 = .ok (.iload_n 1, 1) := by decide +kernel
theorem dL_tryAdvance_2 : decode cL_tryAdvance 2 = .ok (.iload_n 2, 1) := by decide +kernel
theorem dL_tryAdvance_3 : decode cL_tryAdvance 3 = .ok (.iload_n 3, 1) := by decide +kernel
theorem dL_tryAdvance_4 : decode cL_tryAdvance 4 = .ok (.invokevirtual 70, 3) := by decide +kernel
theorem dL_tryAdvance_7 : decode cL_tryAdvance 7 = .ok (.ireturn, 1) := by decide +kernel
theorem dL_tryAdvance_8 : decode cL_tryAdvance 8 = .ok (.astore 4, 2) := by decide +kernel
theorem dL_tryAdvance_10 : decode cL_tryAdvance 10 = .ok (.ldc 15, 2) := by decide +kernel
theorem dL_tryAdvance_12 : decode cL_tryAdvance 12 = .ok (.ireturn, 1) := by decide +kernel
theorem dL_tryAdvance_13 : decode cL_tryAdvance 13 = .ok (.astore 4, 2) := by decide +kernel
theorem dL_tryAdvance_15 : decode cL_tryAdvance 15 = .ok (.ldc 28, 2) := by decide +kernel
theorem dL_tryAdvance_17 : decode cL_tryAdvance 17 = .ok (.ireturn, 1) := by decide +kernel
theorem dL_tryAdvance_18 : decode cL_tryAdvance 18 = .ok (.astore 4, 2) := by decide +kernel
theorem dL_tryAdvance_20 : decode cL_tryAdvance 20 = .ok (.ldc 21, 2) := by decide +kernel
theorem dL_tryAdvance_22 : decode cL_tryAdvance 22 = .ok (.ireturn, 1) := by decide +kernel
theorem dL_tryDeliver_0 : decode cL_tryDeliver 0 = .ok (.aload_n 0, 1) := by decide +kernel
theorem dL_tryDeliver_1 : decode cL_tryDeliver 1 = .ok (.iload_n 1, 1) := by decide +kernel
theorem dL_tryDeliver_2 : decode cL_tryDeliver 2 = .ok (.invokevirtual 73, 3) := by decide +kernel
theorem dL_tryDeliver_5 : decode cL_tryDeliver 5 = .ok (.ireturn, 1) := by decide +kernel
theorem dL_tryDeliver_6 : decode cL_tryDeliver 6 = .ok (.astore_n 2, 1) := by decide +kernel
theorem dL_tryDeliver_7 : decode cL_tryDeliver 7 = .ok (.ldc 15, 2) := by decide +kernel
theorem dL_tryDeliver_9 : decode cL_tryDeliver 9 = .ok (.ireturn, 1) := by decide +kernel
theorem dL_tryDeliver_10 : decode cL_tryDeliver 10 = .ok (.astore_n 2, 1) := by decide +kernel
theorem dL_tryDeliver_11 : decode cL_tryDeliver 11 = .ok (.ldc 21, 2) := by decide +kernel
theorem dL_tryDeliver_13 : decode cL_tryDeliver 13 = .ok (.ireturn, 1) := by decide +kernel
theorem dL_tryTake_0 : decode cL_tryTake 0 = .ok (.aload_n 0, 1) := by decide +kernel
theorem dL_tryTake_1 : decode cL_tryTake 1 = .ok (.iload_n 1, 1) := by decide +kernel
theorem dL_tryTake_2 : decode cL_tryTake 2 = .ok (.iload_n 2, 1) := by decide +kernel
theorem dL_tryTake_3 : decode cL_tryTake 3 = .ok (.iload_n 3, 1) := by decide +kernel
theorem dL_tryTake_4 : decode cL_tryTake 4 = .ok (.invokevirtual 76, 3) := by decide +kernel
theorem dL_tryTake_7 : decode cL_tryTake 7 = .ok (.ireturn, 1) := by decide +kernel
theorem dL_tryTake_8 : decode cL_tryTake 8 = .ok (.astore 4, 2) := by decide +kernel
theorem dL_tryTake_10 : decode cL_tryTake 10 = .ok (.ldc 15, 2) := by decide +kernel
theorem dL_tryTake_12 : decode cL_tryTake 12 = .ok (.ireturn, 1) := by decide +kernel
theorem dL_tryTake_13 : decode cL_tryTake 13 = .ok (.astore 4, 2) := by decide +kernel
theorem dL_tryTake_15 : decode cL_tryTake 15 = .ok (.ldc 21, 2) := by decide +kernel
theorem dL_tryTake_17 : decode cL_tryTake 17 = .ok (.ireturn, 1) := by decide +kernel
theorem dL_tryBuy_0 : decode cL_tryBuy 0 = .ok (.aload_n 0, 1) := by decide +kernel
theorem dL_tryBuy_1 : decode cL_tryBuy 1 = .ok (.iload_n 1, 1) := by decide +kernel
theorem dL_tryBuy_2 : decode cL_tryBuy 2 = .ok (.iload_n 2, 1) := by decide +kernel
theorem dL_tryBuy_3 : decode cL_tryBuy 3 = .ok (.invokevirtual 79, 3) := by decide +kernel
theorem dL_tryBuy_6 : decode cL_tryBuy 6 = .ok (.ireturn, 1) := by decide +kernel
theorem dL_tryBuy_7 : decode cL_tryBuy 7 = .ok (.astore_n 3, 1) := by decide +kernel
theorem dL_tryBuy_8 : decode cL_tryBuy 8 = .ok (.ldc 15, 2) := by decide +kernel
theorem dL_tryBuy_10 : decode cL_tryBuy 10 = .ok (.ireturn, 1) := by decide +kernel
theorem dL_tryBuy_11 : decode cL_tryBuy 11 = .ok (.astore_n 3, 1) := by decide +kernel
theorem dL_tryBuy_12 : decode cL_tryBuy 12 = .ok (.ldc 21, 2) := by decide +kernel
theorem dL_tryBuy_14 : decode cL_tryBuy 14 = .ok (.ireturn, 1) := by decide +kernel
theorem dL_tryDays_0 : decode cL_tryDays 0 = .ok (.aload_n 0, 1) := by decide +kernel
theorem dL_tryDays_1 : decode cL_tryDays 1 = .ok (.iload_n 1, 1) := by decide +kernel
theorem dL_tryDays_2 : decode cL_tryDays 2 = .ok (.invokevirtual 82, 3) := by decide +kernel
theorem dL_tryDays_5 : decode cL_tryDays 5 = .ok (.ireturn, 1) := by decide +kernel
theorem dL_tryDays_6 : decode cL_tryDays 6 = .ok (.astore_n 2, 1) := by decide +kernel
theorem dL_tryDays_7 : decode cL_tryDays 7 = .ok (.ldc 28, 2) := by decide +kernel
theorem dL_tryDays_9 : decode cL_tryDays 9 = .ok (.ireturn, 1) := by decide +kernel
theorem dL_trySet_0 : decode cL_trySet 0 = .ok (.aload_n 0, 1) := by decide +kernel
theorem dL_trySet_1 : decode cL_trySet 1 = .ok (.iload_n 1, 1) := by decide +kernel
theorem dL_trySet_2 : decode cL_trySet 2 = .ok (.iload_n 2, 1) := by decide +kernel
theorem dL_trySet_3 : decode cL_trySet 3 = .ok (.invokevirtual 85, 3) := by decide +kernel
theorem dL_trySet_6 : decode cL_trySet 6 = .ok (.ireturn, 1) := by decide +kernel
theorem dL_trySet_7 : decode cL_trySet 7 = .ok (.astore_n 3, 1) := by decide +kernel
theorem dL_trySet_8 : decode cL_trySet 8 = .ok (.ldc 28, 2) := by decide +kernel
theorem dL_trySet_10 : decode cL_trySet 10 = .ok (.ireturn, 1) := by decide +kernel
theorem dL_tryUndo_0 : decode cL_tryUndo 0 = .ok (.aload_n 0, 1) := by decide +kernel
theorem dL_tryUndo_1 : decode cL_tryUndo 1 = .ok (.invokevirtual 88, 3) := by decide +kernel
theorem dL_tryUndo_4 : decode cL_tryUndo 4 = .ok (.ireturn, 1) := by decide +kernel
theorem dL_tryUndo_5 : decode cL_tryUndo 5 = .ok (.astore_n 1, 1) := by decide +kernel
theorem dL_tryUndo_6 : decode cL_tryUndo 6 = .ok (.ldc 21, 2) := by decide +kernel
theorem dL_tryUndo_8 : decode cL_tryUndo 8 = .ok (.ireturn, 1) := by decide +kernel
theorem dL_tryComplete_0 : decode cL_tryComplete 0 = .ok (.aload_n 0, 1) := by decide +kernel
theorem dL_tryComplete_1 : decode cL_tryComplete 1 = .ok (.iload_n 1, 1) := by decide +kernel
theorem dL_tryComplete_2 : decode cL_tryComplete 2 = .ok (.iload_n 2, 1) := by decide +kernel
theorem dL_tryComplete_3 : decode cL_tryComplete 3 = .ok (.invokevirtual 91, 3) := by decide +kernel
theorem dL_tryComplete_6 : decode cL_tryComplete 6 = .ok (.ireturn, 1) := by decide +kernel
theorem dL_tryComplete_7 : decode cL_tryComplete 7 = .ok (.astore_n 3, 1) := by decide +kernel
theorem dL_tryComplete_8 : decode cL_tryComplete 8 = .ok (.ldc 15, 2) := by decide +kernel
theorem dL_tryComplete_10 : decode cL_tryComplete 10 = .ok (.ireturn, 1) := by decide +kernel
theorem dL_tryTakings_0 : decode cL_tryTakings 0 = .ok (.aload_n 0, 1) := by decide +kernel
theorem dL_tryTakings_1 : decode cL_tryTakings 1 = .ok (.iload_n 1, 1) := by decide +kernel
theorem dL_tryTakings_2 : decode cL_tryTakings 2 = .ok (.iload_n 2, 1) := by decide +kernel
theorem dL_tryTakings_3 : decode cL_tryTakings 3 = .ok (.invokevirtual 94, 3) := by decide +kernel
theorem dL_tryTakings_6 : decode cL_tryTakings 6 = .ok (.ireturn, 1) := by decide +kernel
theorem dL_tryTakings_7 : decode cL_tryTakings 7 = .ok (.astore_n 3, 1) := by decide +kernel
theorem dL_tryTakings_8 : decode cL_tryTakings 8 = .ok (.ldc 15, 2) := by decide +kernel
theorem dL_tryTakings_10 : decode cL_tryTakings 10 = .ok (.ireturn, 1) := by decide +kernel
theorem dL_tryBill_0 : decode cL_tryBill 0 = .ok (.aload_n 0, 1) := by decide +kernel
theorem dL_tryBill_1 : decode cL_tryBill 1 = .ok (.iload_n 1, 1) := by decide +kernel
theorem dL_tryBill_2 : decode cL_tryBill 2 = .ok (.iload_n 2, 1) := by decide +kernel
theorem dL_tryBill_3 : decode cL_tryBill 3 = .ok (.invokevirtual 97, 3) := by decide +kernel
theorem dL_tryBill_6 : decode cL_tryBill 6 = .ok (.ireturn, 1) := by decide +kernel
theorem dL_tryBill_7 : decode cL_tryBill 7 = .ok (.astore_n 3, 1) := by decide +kernel
theorem dL_tryBill_8 : decode cL_tryBill 8 = .ok (.ldc 15, 2) := by decide +kernel
theorem dL_tryBill_10 : decode cL_tryBill 10 = .ok (.ireturn, 1) := by decide +kernel
theorem dL_tryBill_11 : decode cL_tryBill 11 = .ok (.astore_n 3, 1) := by decide +kernel
theorem dL_tryBill_12 : decode cL_tryBill 12 = .ok (.ldc 28, 2) := by decide +kernel
theorem dL_tryBill_14 : decode cL_tryBill 14 = .ok (.ireturn, 1) := by decide +kernel
theorem dL_tryCheapest_0 : decode cL_tryCheapest 0 = .ok (.aload_n 0, 1) := by decide +kernel
theorem dL_tryCheapest_1 : decode cL_tryCheapest 1 = .ok (.iload_n 1, 1) := by decide +kernel
theorem dL_tryCheapest_2 : decode cL_tryCheapest 2 = .ok (.iload_n 2, 1) := by decide +kernel
theorem dL_tryCheapest_3 : decode cL_tryCheapest 3 = .ok (.invokevirtual 100, 3) := by decide +kernel
theorem dL_tryCheapest_6 : decode cL_tryCheapest 6 = .ok (.ireturn, 1) := by decide +kernel
theorem dL_tryCheapest_7 : decode cL_tryCheapest 7 = .ok (.astore_n 3, 1) := by decide +kernel
theorem dL_tryCheapest_8 : decode cL_tryCheapest 8 = .ok (.ldc 15, 2) := by decide +kernel
theorem dL_tryCheapest_10 : decode cL_tryCheapest 10 = .ok (.ireturn, 1) := by decide +kernel
theorem dL_tryKeep_0 : decode cL_tryKeep 0 = .ok (.aload_n 0, 1) := by decide +kernel
theorem dL_tryKeep_1 : decode cL_tryKeep 1 = .ok (.iload_n 1, 1) := by decide +kernel
theorem dL_tryKeep_2 : decode cL_tryKeep 2 = .ok (.invokevirtual 103, 3) := by decide +kernel
theorem dL_tryKeep_5 : decode cL_tryKeep 5 = .ok (.ireturn, 1) := by decide +kernel
theorem dL_tryKeep_6 : decode cL_tryKeep 6 = .ok (.astore_n 2, 1) := by decide +kernel
theorem dL_tryKeep_7 : decode cL_tryKeep 7 = .ok (.ldc 15, 2) := by decide +kernel
theorem dL_tryKeep_9 : decode cL_tryKeep 9 = .ok (.ireturn, 1) := by decide +kernel
theorem dL_tryBack_0 : decode cL_tryBack 0 = .ok (.aload_n 0, 1) := by decide +kernel
theorem dL_tryBack_1 : decode cL_tryBack 1 = .ok (.iload_n 1, 1) := by decide +kernel
theorem dL_tryBack_2 : decode cL_tryBack 2 = .ok (.invokevirtual 106, 3) := by decide +kernel
theorem dL_tryBack_5 : decode cL_tryBack 5 = .ok (.ireturn, 1) := by decide +kernel
theorem dL_tryBack_6 : decode cL_tryBack 6 = .ok (.astore_n 2, 1) := by decide +kernel
theorem dL_tryBack_7 : decode cL_tryBack 7 = .ok (.ldc 15, 2) := by decide +kernel
theorem dL_tryBack_9 : decode cL_tryBack 9 = .ok (.ireturn, 1) := by decide +kernel
theorem dL_tryBack_10 : decode cL_tryBack 10 = .ok (.astore_n 2, 1) := by decide +kernel
theorem dL_tryBack_11 : decode cL_tryBack 11 = .ok (.ldc 21, 2) := by decide +kernel
theorem dL_tryBack_13 : decode cL_tryBack 13 = .ok (.ireturn, 1) := by decide +kernel
set_option maxRecDepth 20000 in
theorem ggL_tryOwed_X8_owed : GoodIn wsL_tryOwed wsX8_owed := goodIn_ca (goodIn_r _ [7, 8, 9, 10, 11, 12, 6, 13, 14, 15, 16, 17, 18, 19, 20, 21, 22, 23, 24, 25, 26, 27, 28, 29, 30, 31, 32, 33, 34, 35, 36, 37, 38, 39, 40, 41, 42, 43] (by decide +kernel) (by decide +kernel)) (goodIn_sub (fun _ h => List.mem_cons_of_mem _ (List.mem_append_right _ h)) (by decide +kernel))
set_option maxRecDepth 20000 in
theorem gL_tryOwed_X8_owed : GoodIn wsL_tryOwed (wsV RL 7 RX8 yX8_owed wsX8_owed) := goodIn_app (goodIn_of _ (by decide +kernel)) ggL_tryOwed_X8_owed
set_option maxRecDepth 20000 in
theorem ggL_trySettle_X8_settle : GoodIn wsL_trySettle wsX8_settle := goodIn_ca (goodIn_ca (goodIn_ca (goodIn_r _ [9, 10, 11, 12, 13, 14, 15, 16, 17, 18, 19, 20, 21, 22, 23, 24, 25, 26, 27, 28, 29, 30, 31, 32, 33, 34, 35, 36, 37, 38, 39, 40, 41, 42, 43, 44, 45, 46, 47, 48, 49, 50, 51, 52, 53, 54, 55, 56, 57, 58, 59, 60, 61, 62, 63, 64, 8, 65, 66, 67, 68, 69, 70, 71, 72, 73, 74, 75, 76, 77, 78, 79, 80, 81, 82, 83, 84, 85, 86, 87, 88, 89, 90, 91, 92, 93, 94, 95, 96, 97, 98, 99, 100, 101, 102, 103, 104, 105, 106, 107, 108, 109, 110, 111, 112, 113, 114, 115, 116, 117, 118, 119, 120, 121, 122, 123] (by decide +kernel) (by decide +kernel)) (goodIn_sub (fun _ h => List.mem_cons_of_mem _ (List.mem_append_left _ (List.mem_append_left _ (List.mem_append_right _ h)))) (by decide +kernel))) (goodIn_sub (fun _ h => List.mem_cons_of_mem _ (List.mem_append_left _ (List.mem_append_right _ h))) (by decide +kernel))) (goodIn_sub (fun _ h => List.mem_cons_of_mem _ (List.mem_append_right _ h)) (by decide +kernel))
set_option maxRecDepth 20000 in
theorem gL_trySettle_X8_settle : GoodIn wsL_trySettle (wsV RL 16 RX8 yX8_settle wsX8_settle) := goodIn_app (goodIn_of _ (by decide +kernel)) ggL_trySettle_X8_settle
set_option maxRecDepth 20000 in
theorem ggL_tryScript_X8_runScript : GoodIn wsL_tryScript wsX8_runScript := goodIn_ca (goodIn_r _ [7, 8, 9, 10, 11, 12, 13, 14, 15, 16, 17, 18, 19, 20, 21, 22, 23, 24, 25, 26, 27, 28, 29, 30, 31, 32, 33, 34, 35, 36, 37, 38, 39, 40, 41, 42, 43, 44, 45, 46, 47, 48, 49, 50, 51, 52, 53, 54, 55, 56, 57, 58, 59, 60, 61, 62, 63, 64, 65, 66, 67, 68, 69, 6, 70, 71, 72, 73, 74, 75, 76, 77, 78, 79, 80, 81, 82, 83, 84, 85, 86, 87, 88, 89, 90, 91, 92, 93, 94, 95, 96, 97, 98, 99, 100, 101, 102, 103, 104, 105, 106, 107, 108, 109, 110, 111, 112, 113, 114, 115, 116, 117, 118, 119, 120, 121, 122, 123, 124, 125, 126, 127, 128, 129, 130, 131, 132, 133, 134, 135, 136, 137, 138, 139, 140, 141, 142, 143, 144, 145, 146, 147, 148, 149, 150, 151, 152, 153, 154, 155, 156, 157, 158, 159, 160, 161, 162, 163, 164, 165, 166, 167, 168, 169, 170, 171, 172, 173, 174, 175, 176, 177, 178, 179, 180, 181, 182, 183, 184, 185, 186, 187, 188] (by decide +kernel) (by decide +kernel)) (goodIn_sub (fun _ h => List.mem_cons_of_mem _ (List.mem_append_right _ h)) (by decide +kernel))
set_option maxRecDepth 20000 in
theorem gL_tryScript_X8_runScript : GoodIn wsL_tryScript (wsV RL 22 RX8 yX8_runScript wsX8_runScript) := goodIn_app (goodIn_of _ (by decide +kernel)) ggL_tryScript_X8_runScript
set_option maxRecDepth 20000 in
theorem ggL_trySimulate_X8_simulate : GoodIn wsL_trySimulate wsX8_simulate := goodIn_ca (goodIn_r _ [7, 8, 9, 10, 11, 12, 13, 14, 15, 16, 17, 18, 19, 20, 21, 22, 23, 24, 25, 26, 27, 28, 29, 30, 31, 32, 33, 34, 35, 36, 37, 38, 39, 40, 41, 42, 43, 44, 45, 46, 47, 48, 49, 50, 51, 52, 53, 54, 55, 56, 57, 58, 59, 60, 61, 62, 63, 64, 65, 66, 67, 6, 68, 69, 70, 71, 72, 73, 74, 75, 76, 77, 78, 79, 80, 81, 82, 83, 84, 85, 86, 87, 88, 89, 90, 91, 92, 93, 94, 95, 96, 97, 98, 99, 100, 101, 102, 103, 104, 105, 106, 107, 108, 109, 110, 111, 112, 113, 114, 115, 116, 117, 118, 119, 120, 121, 122, 123, 124, 125, 126, 127, 128, 129, 130, 131, 132, 133, 134, 135, 136, 137, 138, 139, 140, 141, 142, 143, 144, 145, 146, 147, 148, 149, 150, 151, 152, 153, 154, 155, 156, 157, 158, 159, 160, 161, 162, 163, 164, 165, 166, 167, 168, 169, 170, 171, 172, 173, 174, 175, 176, 177, 178, 179, 180, 181, 182, 183, 184, 185, 186, 187, 188, 189, 190, 191, 192, 193, 194, 195, 196, 197, 198, 199, 200, 201, 202, 203, 204, 205, 206, 207, 208, 209, 210, 211, 212, 213, 214, 215, 216, 217, 218, 219, 220, 221, 222, 223, 224, 225, 226, 227, 228, 229, 230, 231, 232, 233, 234, 235, 236, 237] (by decide +kernel) (by decide +kernel)) (goodIn_sub (fun _ h => List.mem_cons_of_mem _ (List.mem_append_right _ h)) (by decide +kernel))
set_option maxRecDepth 20000 in
theorem gL_trySimulate_X8_simulate : GoodIn wsL_trySimulate (wsV RL 29 RX8 yX8_simulate wsX8_simulate) := goodIn_app (goodIn_of _ (by decide +kernel)) ggL_trySimulate_X8_simulate
set_option maxRecDepth 20000 in
theorem ggL_tryAppend_X8_append : GoodIn wsL_tryAppend wsX8_append := goodIn_ca (goodIn_ca (goodIn_r _ [9, 10, 11, 12, 13, 14, 15, 16, 17, 18, 19, 20, 21, 22, 23, 24, 25, 26, 27, 28, 29, 30, 31, 32, 33] (by decide +kernel) (by decide +kernel)) (goodIn_sub (fun _ h => List.mem_cons_of_mem _ (List.mem_append_left _ (List.mem_append_right _ h))) (by decide +kernel))) (goodIn_sub (fun _ h => List.mem_cons_of_mem _ (List.mem_append_right _ h)) (by decide +kernel))
set_option maxRecDepth 20000 in
theorem gL_tryAppend_X8_append : GoodIn wsL_tryAppend (wsV RL 33 RX8 yX8_append wsX8_append) := goodIn_app (goodIn_of _ (by decide +kernel)) ggL_tryAppend_X8_append
set_option maxRecDepth 20000 in
theorem ggL_tryLoad_X8_load : GoodIn wsL_tryLoad wsX8_load := goodIn_ca (goodIn_r _ [7, 8, 9, 10, 11, 12, 13, 14, 15, 16, 17, 18, 19, 20, 21, 22, 23, 24, 25, 26, 27, 28, 29, 30, 31, 32, 33, 34, 35, 36, 37, 38, 39, 40, 41, 42, 43, 44, 45, 46, 47, 48, 49, 50, 51, 52, 53, 54, 55, 56, 57, 58, 59, 60, 61, 62, 63, 64, 65, 66, 67, 68, 69, 70, 71, 72, 73, 74, 75, 76, 77, 78, 79, 80, 81, 82, 83, 84, 85, 86, 87, 88, 89, 90, 91, 92, 93, 94, 95, 96, 97, 98, 99, 100, 101, 102, 103, 104, 105, 106, 107, 108, 109, 110, 111, 112, 113, 114, 115, 116, 117, 118, 119, 120, 121, 122, 123, 124, 125, 126, 127, 128, 129, 130, 131, 132, 133, 134, 135, 136, 6, 137, 138, 139, 140, 141, 142, 143, 144, 145, 146, 147, 148, 149, 150, 151, 152, 153, 154, 155, 156, 157, 158, 159, 160, 161, 162, 163, 164, 165, 166, 167, 168, 169, 170, 171, 172, 173, 174, 175, 176, 177, 178, 179, 180, 181, 182, 183, 184, 185, 186, 187, 188, 189, 190, 191, 192, 193, 194, 195, 196, 197, 198, 199, 200, 201, 202, 203, 204, 205, 206, 207, 208, 209, 210, 211, 212, 213, 214, 215, 216, 217, 218, 219, 220, 221, 222, 223, 224, 225, 226, 227, 228, 229, 230, 231, 232, 233, 234, 235, 236, 237, 238, 239, 240, 241, 242, 243, 244, 245, 246, 247, 248, 249, 250, 251, 252, 253, 254, 255, 256, 257, 258, 259, 260, 261, 262, 263, 264, 265, 266, 267, 268, 269, 270, 271, 272, 273, 274, 275, 276, 277, 278, 279] (by decide +kernel) (by decide +kernel)) (goodIn_sub (fun _ h => List.mem_cons_of_mem _ (List.mem_append_right _ h)) (by decide +kernel))
set_option maxRecDepth 20000 in
theorem gL_tryLoad_X8_load : GoodIn wsL_tryLoad (wsV RL 37 RX8 yX8_load wsX8_load) := goodIn_app (goodIn_of _ (by decide +kernel)) ggL_tryLoad_X8_load
set_option maxRecDepth 20000 in
theorem ggL_tryAbout_X8_about : GoodIn wsL_tryAbout wsX8_about := goodIn_ca (goodIn_r _ [7, 8, 9, 10, 11, 12, 13, 14, 15, 16, 17, 18, 19, 20, 21, 22, 23, 24, 25, 26, 27, 28, 29, 30, 31, 32, 33, 34, 35, 36, 37, 38, 39, 40, 41, 42, 43, 44, 45, 46, 47, 48, 49, 50, 51, 52, 53, 54, 55, 56, 6, 57, 58, 59, 60, 61, 62, 63, 64, 65, 66, 67, 68, 69, 70, 71, 72, 73, 74, 75, 76, 77, 78, 79, 80, 81, 82] (by decide +kernel) (by decide +kernel)) (goodIn_sub (fun _ h => List.mem_cons_of_mem _ (List.mem_append_right _ h)) (by decide +kernel))
set_option maxRecDepth 20000 in
theorem gL_tryAbout_X8_about : GoodIn wsL_tryAbout (wsV RL 41 RX8 yX8_about wsX8_about) := goodIn_app (goodIn_of _ (by decide +kernel)) ggL_tryAbout_X8_about
set_option maxRecDepth 20000 in
theorem ggL_tryUnit_X8_unit : GoodIn wsL_tryUnit wsX8_unit := goodIn_ca (goodIn_ca (goodIn_r _ [9, 10, 11, 12, 13, 14, 15, 16, 17, 18, 19, 20, 21, 22, 23, 24, 25, 26, 27, 28, 29, 30, 31, 32, 33, 34, 35, 36, 37, 38, 39, 40, 41, 42, 43, 44, 45, 46, 47, 48, 49, 50, 51, 52, 53, 54, 55, 56, 57, 58, 59, 60, 61] (by decide +kernel) (by decide +kernel)) (goodIn_sub (fun _ h => List.mem_cons_of_mem _ (List.mem_append_left _ (List.mem_append_right _ h))) (by decide +kernel))) (goodIn_sub (fun _ h => List.mem_cons_of_mem _ (List.mem_append_right _ h)) (by decide +kernel))
set_option maxRecDepth 20000 in
theorem gL_tryUnit_X8_unit : GoodIn wsL_tryUnit (wsV RL 44 RX8 yX8_unit wsX8_unit) := goodIn_app (goodIn_of _ (by decide +kernel)) ggL_tryUnit_X8_unit
set_option maxRecDepth 20000 in
theorem ggL_tryHolder_X8_holder : GoodIn wsL_tryHolder wsX8_holder := goodIn_ca (goodIn_ca (goodIn_r _ [9, 10, 11, 12, 13, 14, 15, 16, 8, 17, 18, 19, 20, 21, 22, 23, 24, 25, 26, 27, 28, 29, 30, 31, 32, 33, 34, 35, 36, 37, 38, 39, 40, 41, 42, 43, 44, 45, 46, 47, 48, 49, 50, 51, 52, 53, 54, 55, 56, 57, 58, 59, 60, 61, 62, 63, 64, 65, 66, 67] (by decide +kernel) (by decide +kernel)) (goodIn_sub (fun _ h => List.mem_cons_of_mem _ (List.mem_append_left _ (List.mem_append_right _ h))) (by decide +kernel))) (goodIn_sub (fun _ h => List.mem_cons_of_mem _ (List.mem_append_right _ h)) (by decide +kernel))
set_option maxRecDepth 20000 in
theorem gL_tryHolder_X8_holder : GoodIn wsL_tryHolder (wsV RL 48 RX8 yX8_holder wsX8_holder) := goodIn_app (goodIn_of _ (by decide +kernel)) ggL_tryHolder_X8_holder
set_option maxRecDepth 20000 in
theorem ggL_tryCore_X8_core : GoodIn wsL_tryCore wsX8_core := goodIn_ca (goodIn_ca (goodIn_r _ [9, 10, 11, 12, 13, 14, 15, 16, 8, 17, 18, 19, 20, 21, 22, 23, 24, 25, 26, 27, 28, 29, 30, 31, 32, 33, 34, 35, 36, 37, 38, 39, 40, 41, 42, 43, 44, 45, 46, 47, 48, 49] (by decide +kernel) (by decide +kernel)) (goodIn_sub (fun _ h => List.mem_cons_of_mem _ (List.mem_append_left _ (List.mem_append_right _ h))) (by decide +kernel))) (goodIn_sub (fun _ h => List.mem_cons_of_mem _ (List.mem_append_right _ h)) (by decide +kernel))
set_option maxRecDepth 20000 in
theorem gL_tryCore_X8_core : GoodIn wsL_tryCore (wsV RL 51 RX8 yX8_core wsX8_core) := goodIn_app (goodIn_of _ (by decide +kernel)) ggL_tryCore_X8_core
set_option maxRecDepth 20000 in
theorem ggL_trySetting_X8_setting : GoodIn wsL_trySetting wsX8_setting := goodIn_ca (goodIn_r _ [7, 8, 9, 10, 11, 12, 6, 13, 14, 15, 16, 17, 18, 19, 20, 21, 22, 23, 24, 25, 26, 27, 28] (by decide +kernel) (by decide +kernel)) (goodIn_sub (fun _ h => List.mem_cons_of_mem _ (List.mem_append_right _ h)) (by decide +kernel))
set_option maxRecDepth 20000 in
theorem gL_trySetting_X8_setting : GoodIn wsL_trySetting (wsV RL 55 RX8 yX8_setting wsX8_setting) := goodIn_app (goodIn_of _ (by decide +kernel)) ggL_trySetting_X8_setting
set_option maxRecDepth 20000 in
theorem ggL_tryCome_X8_come : GoodIn wsL_tryCome wsX8_come := goodIn_ca (goodIn_ca (goodIn_ca (goodIn_r _ [11, 12, 13, 14, 15, 16, 17, 18, 19, 20, 21, 22, 23, 24, 25, 26, 27, 28, 29, 30, 31, 32, 33, 34, 35, 36, 37, 38, 39, 40, 41, 42, 43, 44, 45, 46, 47, 48, 49, 50, 51, 52, 53, 54, 55, 56, 57, 58, 59, 60, 61, 62, 63, 64, 65, 66, 10, 67, 68, 69, 70, 71, 72, 73, 74, 75, 76, 77, 78, 79, 80, 81, 82, 83, 84, 85, 86, 87, 88, 89, 90, 91, 92, 93, 94, 95, 96, 97, 98, 99, 100, 101, 102, 103, 104, 105, 106, 107, 108, 109, 110, 111, 112, 113, 114, 115, 116, 117, 118, 119, 120, 121] (by decide +kernel) (by decide +kernel)) (goodIn_sub (fun _ h => List.mem_cons_of_mem _ (List.mem_append_left _ (List.mem_append_left _ (List.mem_append_right _ h)))) (by decide +kernel))) (goodIn_sub (fun _ h => List.mem_cons_of_mem _ (List.mem_append_left _ (List.mem_append_right _ h))) (by decide +kernel))) (goodIn_sub (fun _ h => List.mem_cons_of_mem _ (List.mem_append_right _ h)) (by decide +kernel))
set_option maxRecDepth 20000 in
theorem gL_tryCome_X8_come : GoodIn wsL_tryCome (wsV RL 58 RX8 yX8_come wsX8_come) := goodIn_app (goodIn_of _ (by decide +kernel)) ggL_tryCome_X8_come
set_option maxRecDepth 20000 in
theorem ggL_tryLend_X8_lend : GoodIn wsL_tryLend wsX8_lend := goodIn_ca (goodIn_ca (goodIn_ca (goodIn_r _ [11, 12, 13, 14, 15, 16, 17, 18, 19, 20, 21, 22, 23, 24, 25, 26, 27, 28, 29, 30, 31, 32, 33, 34, 35, 36, 37, 38, 39, 40, 41, 42, 43, 44, 45, 46, 47, 48, 49, 50, 51, 52, 53, 54, 55, 56, 57, 58, 59, 60, 61, 62, 63, 64, 65, 66, 67, 68, 69, 10, 70, 71, 72, 73, 74, 75, 76, 77, 78, 79, 80, 81, 82, 83, 84, 85, 86, 87, 88, 89, 90, 91, 92, 93, 94, 95, 96, 97, 98, 99, 100, 101, 102, 103, 104, 105, 106, 107, 108, 109, 110, 111, 112, 113, 114, 115, 116, 117] (by decide +kernel) (by decide +kernel)) (goodIn_sub (fun _ h => List.mem_cons_of_mem _ (List.mem_append_left _ (List.mem_append_left _ (List.mem_append_right _ h)))) (by decide +kernel))) (goodIn_sub (fun _ h => List.mem_cons_of_mem _ (List.mem_append_left _ (List.mem_append_right _ h))) (by decide +kernel))) (goodIn_sub (fun _ h => List.mem_cons_of_mem _ (List.mem_append_right _ h)) (by decide +kernel))
set_option maxRecDepth 20000 in
theorem gL_tryLend_X8_lend : GoodIn wsL_tryLend (wsV RL 61 RX8 yX8_lend wsX8_lend) := goodIn_app (goodIn_of _ (by decide +kernel)) ggL_tryLend_X8_lend
set_option maxRecDepth 20000 in
theorem ggL_tryBring_X8_bring : GoodIn wsL_tryBring wsX8_bring := goodIn_ca (goodIn_ca (goodIn_ca (goodIn_r _ [9, 10, 11, 12, 13, 14, 15, 16, 17, 18, 19, 20, 21, 22, 23, 24, 25, 26, 27, 28, 29, 30, 31, 32, 33, 34, 35, 36, 37, 38, 39, 40, 41, 42, 43, 44, 45, 46, 47, 48, 49, 50, 51, 52, 53, 54, 55, 56, 57, 58, 59, 60, 61, 62, 63, 64, 65, 66, 67, 68, 69, 70, 71, 72, 73, 74, 75, 76, 77, 78, 79, 80, 81, 82, 83, 84, 85, 86, 87, 8, 88, 89, 90, 91, 92, 93, 94, 95, 96, 97, 98, 99, 100, 101, 102, 103, 104, 105, 106, 107, 108, 109, 110, 111, 112, 113, 114, 115, 116, 117, 118, 119, 120, 121, 122, 123, 124, 125, 126, 127, 128, 129, 130, 131, 132] (by decide +kernel) (by decide +kernel)) (goodIn_sub (fun _ h => List.mem_cons_of_mem _ (List.mem_append_left _ (List.mem_append_left _ (List.mem_append_right _ h)))) (by decide +kernel))) (goodIn_sub (fun _ h => List.mem_cons_of_mem _ (List.mem_append_left _ (List.mem_append_right _ h))) (by decide +kernel))) (goodIn_sub (fun _ h => List.mem_cons_of_mem _ (List.mem_append_right _ h)) (by decide +kernel))
set_option maxRecDepth 20000 in
theorem gL_tryBring_X8_bring : GoodIn wsL_tryBring (wsV RL 64 RX8 yX8_bring wsX8_bring) := goodIn_app (goodIn_of _ (by decide +kernel)) ggL_tryBring_X8_bring
set_option maxRecDepth 20000 in
theorem ggL_tryExchange_X8_exchange : GoodIn wsL_tryExchange wsX8_exchange := goodIn_ca (goodIn_ca (goodIn_ca (goodIn_r _ [9, 10, 11, 12, 13, 14, 15, 16, 17, 18, 19, 20, 21, 22, 23, 24, 25, 26, 27, 28, 29, 30, 31, 32, 33, 34, 35, 36, 37, 38, 39, 40, 41, 42, 43, 44, 45, 46, 47, 48, 49, 50, 51, 52, 53, 54, 55, 56, 57, 58, 59, 60, 61, 62, 63, 64, 65, 66, 67, 68, 69, 70, 71, 72, 73, 74, 75, 76, 77, 78, 79, 80, 81, 82, 83, 84, 85, 86, 87, 88, 89, 90, 91, 92, 93, 94, 95, 96, 97, 98, 99, 100, 101, 102, 103, 8, 104, 105, 106, 107, 108, 109, 110, 111, 112, 113, 114, 115, 116, 117, 118, 119, 120, 121, 122, 123, 124, 125, 126, 127, 128, 129, 130, 131, 132, 133, 134, 135, 136, 137, 138, 139, 140, 141, 142, 143, 144, 145] (by decide +kernel) (by decide +kernel)) (goodIn_sub (fun _ h => List.mem_cons_of_mem _ (List.mem_append_left _ (List.mem_append_left _ (List.mem_append_right _ h)))) (by decide +kernel))) (goodIn_sub (fun _ h => List.mem_cons_of_mem _ (List.mem_append_left _ (List.mem_append_right _ h))) (by decide +kernel))) (goodIn_sub (fun _ h => List.mem_cons_of_mem _ (List.mem_append_right _ h)) (by decide +kernel))
set_option maxRecDepth 20000 in
theorem gL_tryExchange_X8_exchange : GoodIn wsL_tryExchange (wsV RL 67 RX8 yX8_exchange wsX8_exchange) := goodIn_app (goodIn_of _ (by decide +kernel)) ggL_tryExchange_X8_exchange
set_option maxRecDepth 20000 in
theorem ggL_tryAdvance_X8_advance : GoodIn wsL_tryAdvance wsX8_advance := goodIn_ca (goodIn_ca (goodIn_ca (goodIn_r _ [11, 12, 13, 14, 15, 16, 17, 18, 19, 20, 21, 22, 23, 24, 25, 26, 27, 28, 29, 30, 31, 32, 33, 34, 35, 36, 37, 38, 39, 40, 41, 42, 43, 44, 45, 46, 47, 48, 49, 50, 51, 52, 53, 54, 55, 56, 57, 58, 59, 60, 61, 62, 63, 64, 65, 66, 10, 67, 68, 69, 70, 71, 72, 73, 74, 75, 76, 77, 78, 79, 80, 81, 82, 83, 84, 85, 86, 87, 88, 89, 90, 91, 92, 93, 94, 95, 96, 97, 98, 99, 100, 101, 102, 103, 104, 105, 106, 107, 108, 109, 110, 111, 112, 113, 114, 115, 116, 117, 118, 119, 120, 121, 122, 123, 124, 125, 126, 127, 128, 129, 130, 131, 132, 133, 134, 135] (by decide +kernel) (by decide +kernel)) (goodIn_sub (fun _ h => List.mem_cons_of_mem _ (List.mem_append_left _ (List.mem_append_left _ (List.mem_append_right _ h)))) (by decide +kernel))) (goodIn_sub (fun _ h => List.mem_cons_of_mem _ (List.mem_append_left _ (List.mem_append_right _ h))) (by decide +kernel))) (goodIn_sub (fun _ h => List.mem_cons_of_mem _ (List.mem_append_right _ h)) (by decide +kernel))
set_option maxRecDepth 20000 in
theorem gL_tryAdvance_X8_advance : GoodIn wsL_tryAdvance (wsV RL 70 RX8 yX8_advance wsX8_advance) := goodIn_app (goodIn_of _ (by decide +kernel)) ggL_tryAdvance_X8_advance
set_option maxRecDepth 20000 in
theorem ggL_tryDeliver_X8_deliver : GoodIn wsL_tryDeliver wsX8_deliver := goodIn_ca (goodIn_ca (goodIn_ca (goodIn_r _ [9, 10, 11, 12, 13, 14, 15, 16, 17, 18, 19, 20, 21, 22, 23, 24, 25, 26, 27, 28, 29, 30, 31, 32, 33, 34, 35, 36, 37, 38, 39, 40, 41, 42, 43, 44, 45, 46, 47, 48, 49, 50, 51, 52, 53, 54, 55, 56, 57, 58, 59, 60, 61, 62, 63, 64, 65, 66, 67, 68, 69, 70, 71, 72, 73, 74, 75, 76, 77, 78, 79, 80, 81, 82, 83, 84, 85, 86, 8, 87, 88, 89, 90, 91, 92, 93, 94, 95, 96, 97, 98, 99, 100, 101, 102, 103, 104, 105, 106, 107, 108, 109, 110, 111, 112, 113, 114, 115, 116, 117, 118, 119, 120, 121, 122, 123, 124, 125, 126, 127, 128, 129, 130, 131, 132, 133, 134, 135, 136, 137, 138, 139, 140, 141, 142, 143, 144, 145, 146, 147, 148, 149, 150, 151, 152, 153, 154, 155, 156, 157, 158, 159, 160, 161, 162, 163] (by decide +kernel) (by decide +kernel)) (goodIn_sub (fun _ h => List.mem_cons_of_mem _ (List.mem_append_left _ (List.mem_append_left _ (List.mem_append_right _ h)))) (by decide +kernel))) (goodIn_sub (fun _ h => List.mem_cons_of_mem _ (List.mem_append_left _ (List.mem_append_right _ h))) (by decide +kernel))) (goodIn_sub (fun _ h => List.mem_cons_of_mem _ (List.mem_append_right _ h)) (by decide +kernel))
set_option maxRecDepth 20000 in
theorem gL_tryDeliver_X8_deliver : GoodIn wsL_tryDeliver (wsV RL 73 RX8 yX8_deliver wsX8_deliver) := goodIn_app (goodIn_of _ (by decide +kernel)) ggL_tryDeliver_X8_deliver
set_option maxRecDepth 20000 in
theorem ggL_tryTake_X8_take : GoodIn wsL_tryTake wsX8_take := goodIn_ca (goodIn_ca (goodIn_ca (goodIn_r _ [9, 10, 11, 12, 13, 14, 15, 16, 17, 18, 19, 20, 21, 22, 23, 24, 25, 26, 27, 28, 29, 30, 31, 32, 33, 34, 35, 36, 37, 38, 39, 40, 41, 42, 43, 44, 45, 46, 47, 48, 49, 50, 51, 52, 53, 54, 55, 56, 57, 58, 59, 60, 61, 62, 63, 64, 65, 66, 67, 8, 68, 69, 70, 71, 72, 73, 74, 75, 76, 77, 78, 79, 80, 81, 82, 83, 84, 85, 86, 87, 88, 89, 90, 91, 92, 93, 94, 95, 96, 97, 98, 99, 100, 101, 102, 103, 104, 105, 106, 107, 108, 109, 110, 111, 112, 113, 114, 115, 116, 117, 118, 119, 120, 121, 122, 123, 124, 125, 126, 127, 128, 129] (by decide +kernel) (by decide +kernel)) (goodIn_sub (fun _ h => List.mem_cons_of_mem _ (List.mem_append_left _ (List.mem_append_left _ (List.mem_append_right _ h)))) (by decide +kernel))) (goodIn_sub (fun _ h => List.mem_cons_of_mem _ (List.mem_append_left _ (List.mem_append_right _ h))) (by decide +kernel))) (goodIn_sub (fun _ h => List.mem_cons_of_mem _ (List.mem_append_right _ h)) (by decide +kernel))
set_option maxRecDepth 20000 in
theorem gL_tryTake_X8_take : GoodIn wsL_tryTake (wsV RL 76 RX8 yX8_take wsX8_take) := goodIn_app (goodIn_of _ (by decide +kernel)) ggL_tryTake_X8_take
set_option maxRecDepth 20000 in
theorem ggL_tryBuy_X8_buy : GoodIn wsL_tryBuy wsX8_buy := goodIn_ca (goodIn_ca (goodIn_ca (goodIn_r _ [9, 10, 11, 12, 13, 14, 15, 16, 17, 18, 19, 20, 21, 22, 23, 24, 25, 26, 27, 28, 29, 30, 31, 32, 33, 34, 35, 36, 37, 38, 39, 40, 41, 42, 43, 44, 45, 46, 47, 48, 49, 50, 51, 52, 53, 54, 55, 56, 57, 58, 59, 60, 61, 62, 63, 64, 65, 66, 67, 8, 68, 69, 70, 71, 72, 73, 74, 75, 76, 77, 78, 79, 80, 81, 82, 83, 84, 85, 86, 87, 88, 89, 90, 91, 92, 93, 94, 95, 96, 97, 98, 99, 100, 101, 102, 103, 104, 105, 106, 107, 108, 109, 110, 111, 112, 113, 114, 115, 116, 117, 118, 119] (by decide +kernel) (by decide +kernel)) (goodIn_sub (fun _ h => List.mem_cons_of_mem _ (List.mem_append_left _ (List.mem_append_left _ (List.mem_append_right _ h)))) (by decide +kernel))) (goodIn_sub (fun _ h => List.mem_cons_of_mem _ (List.mem_append_left _ (List.mem_append_right _ h))) (by decide +kernel))) (goodIn_sub (fun _ h => List.mem_cons_of_mem _ (List.mem_append_right _ h)) (by decide +kernel))
set_option maxRecDepth 20000 in
theorem gL_tryBuy_X8_buy : GoodIn wsL_tryBuy (wsV RL 79 RX8 yX8_buy wsX8_buy) := goodIn_app (goodIn_of _ (by decide +kernel)) ggL_tryBuy_X8_buy
set_option maxRecDepth 20000 in
theorem ggL_tryDays_X8_days : GoodIn wsL_tryDays wsX8_days := goodIn_ca (goodIn_ca (goodIn_ca (goodIn_r _ [7, 8, 9, 10, 11, 12, 13, 14, 15, 16, 17, 18, 19, 20, 21, 22, 23, 24, 25, 26, 27, 28, 29, 30, 31, 32, 33, 34, 35, 36, 37, 38, 39, 40, 41, 42, 43, 44, 45, 46, 47, 48, 49, 50, 51, 52, 53, 54, 55, 56, 57, 58, 59, 60, 61, 62, 63, 64, 6, 65, 66, 67, 68, 69, 70, 71, 72, 73, 74, 75, 76, 77, 78, 79, 80, 81, 82, 83, 84, 85, 86, 87, 88, 89, 90, 91, 92, 93, 94, 95, 96, 97, 98, 99, 100, 101, 102] (by decide +kernel) (by decide +kernel)) (goodIn_sub (fun _ h => List.mem_cons_of_mem _ (List.mem_append_left _ (List.mem_append_left _ (List.mem_append_right _ h)))) (by decide +kernel))) (goodIn_sub (fun _ h => List.mem_cons_of_mem _ (List.mem_append_left _ (List.mem_append_right _ h))) (by decide +kernel))) (goodIn_sub (fun _ h => List.mem_cons_of_mem _ (List.mem_append_right _ h)) (by decide +kernel))
set_option maxRecDepth 20000 in
theorem gL_tryDays_X8_days : GoodIn wsL_tryDays (wsV RL 82 RX8 yX8_days wsX8_days) := goodIn_app (goodIn_of _ (by decide +kernel)) ggL_tryDays_X8_days
set_option maxRecDepth 20000 in
theorem ggL_trySet_X8_set : GoodIn wsL_trySet wsX8_set := goodIn_ca (goodIn_ca (goodIn_ca (goodIn_r _ [7, 8, 9, 10, 11, 12, 13, 14, 15, 16, 17, 18, 19, 20, 21, 22, 23, 24, 25, 26, 27, 28, 29, 30, 31, 32, 33, 34, 35, 36, 37, 38, 39, 40, 41, 42, 43, 44, 45, 46, 47, 48, 49, 50, 51, 52, 53, 54, 55, 56, 57, 58, 59, 60, 61, 62, 6, 63, 64, 65, 66, 67, 68, 69, 70, 71, 72, 73, 74, 75, 76, 77, 78, 79, 80, 81, 82, 83, 84, 85, 86, 87, 88, 89, 90, 91, 92, 93, 94, 95, 96, 97, 98, 99, 100, 101, 102, 103, 104] (by decide +kernel) (by decide +kernel)) (goodIn_sub (fun _ h => List.mem_cons_of_mem _ (List.mem_append_left _ (List.mem_append_left _ (List.mem_append_right _ h)))) (by decide +kernel))) (goodIn_sub (fun _ h => List.mem_cons_of_mem _ (List.mem_append_left _ (List.mem_append_right _ h))) (by decide +kernel))) (goodIn_sub (fun _ h => List.mem_cons_of_mem _ (List.mem_append_right _ h)) (by decide +kernel))
set_option maxRecDepth 20000 in
theorem gL_trySet_X8_set : GoodIn wsL_trySet (wsV RL 85 RX8 yX8_set wsX8_set) := goodIn_app (goodIn_of _ (by decide +kernel)) ggL_trySet_X8_set
set_option maxRecDepth 20000 in
theorem ggL_tryUndo_X8_undo : GoodIn wsL_tryUndo wsX8_undo := goodIn_ca (goodIn_r _ [7, 8, 9, 10, 11, 12, 13, 14, 15, 16, 17, 18, 19, 20, 21, 22, 23, 24, 25, 26, 27, 28, 29, 30, 31, 32, 33, 34, 35, 36, 37, 38, 39, 40, 41, 42, 43, 44, 45, 46, 47, 48, 49, 50, 51, 52, 53, 54, 55, 56, 57, 58, 59, 60, 61, 62, 63, 64, 65, 66, 67, 68, 69, 70, 71, 72, 73, 74, 75, 76, 77, 78, 79, 80, 81, 82, 83, 84, 85, 86, 87, 88] (by decide +kernel) (by decide +kernel)) (goodIn_sub (fun _ h => List.mem_cons_of_mem _ (List.mem_append_right _ h)) (by decide +kernel))
set_option maxRecDepth 20000 in
theorem gL_tryUndo_X8_undo : GoodIn wsL_tryUndo (wsV RL 88 RX8 yX8_undo wsX8_undo) := goodIn_app (goodIn_of _ (by decide +kernel)) ggL_tryUndo_X8_undo
set_option maxRecDepth 20000 in
theorem ggL_tryComplete_X8_complete : GoodIn wsL_tryComplete wsX8_complete := goodIn_ca (goodIn_r _ [7, 8, 9, 10, 11, 12, 6, 13, 14, 15, 16, 17, 18, 19, 20, 21, 22, 23, 24, 25, 26, 27, 28, 29, 30, 31, 32, 33, 34, 35, 36, 37, 38, 39, 40, 41, 42, 43, 44, 45, 46, 47, 48, 49, 50, 51, 52, 53, 54, 55, 56, 57, 58, 59, 60, 61] (by decide +kernel) (by decide +kernel)) (goodIn_sub (fun _ h => List.mem_cons_of_mem _ (List.mem_append_right _ h)) (by decide +kernel))
set_option maxRecDepth 20000 in
theorem gL_tryComplete_X8_complete : GoodIn wsL_tryComplete (wsV RL 91 RX8 yX8_complete wsX8_complete) := goodIn_app (goodIn_of _ (by decide +kernel)) ggL_tryComplete_X8_complete
set_option maxRecDepth 20000 in
theorem ggL_tryTakings_X8_takings : GoodIn wsL_tryTakings wsX8_takings := goodIn_ca (goodIn_r _ [7, 8, 9, 10, 11, 12, 6, 13, 14, 15, 16, 17, 18, 19, 20, 21, 22, 23, 24, 25, 26, 27, 28, 29, 30, 31, 32, 33, 34, 35, 36, 37, 38, 39, 40, 41, 42, 43, 44, 45, 46, 47, 48, 49, 50, 51, 52, 53, 54, 55, 56, 57, 58, 59, 60, 61, 62, 63, 64, 65, 66, 67, 68, 69, 70, 71, 72, 73, 74, 75, 76, 77, 78, 79, 80] (by decide +kernel) (by decide +kernel)) (goodIn_sub (fun _ h => List.mem_cons_of_mem _ (List.mem_append_right _ h)) (by decide +kernel))
set_option maxRecDepth 20000 in
theorem gL_tryTakings_X8_takings : GoodIn wsL_tryTakings (wsV RL 94 RX8 yX8_takings wsX8_takings) := goodIn_app (goodIn_of _ (by decide +kernel)) ggL_tryTakings_X8_takings
set_option maxRecDepth 20000 in
theorem ggL_tryBill_X8_bill : GoodIn wsL_tryBill wsX8_bill := goodIn_ca (goodIn_ca (goodIn_r _ [9, 10, 11, 12, 13, 14, 15, 16, 8, 17, 18, 19, 20, 21, 22, 23, 24, 25, 26, 27, 28, 29, 30, 31, 32, 33, 34, 35, 36, 37, 38, 39, 40, 41, 42, 43, 44, 45, 46, 47, 48, 49, 50, 51, 52, 53, 54, 55, 56, 57, 58, 59, 60, 61, 62, 63, 64, 65, 66, 67, 68] (by decide +kernel) (by decide +kernel)) (goodIn_sub (fun _ h => List.mem_cons_of_mem _ (List.mem_append_left _ (List.mem_append_right _ h))) (by decide +kernel))) (goodIn_sub (fun _ h => List.mem_cons_of_mem _ (List.mem_append_right _ h)) (by decide +kernel))
set_option maxRecDepth 20000 in
theorem gL_tryBill_X8_bill : GoodIn wsL_tryBill (wsV RL 97 RX8 yX8_bill wsX8_bill) := goodIn_app (goodIn_of _ (by decide +kernel)) ggL_tryBill_X8_bill
set_option maxRecDepth 20000 in
theorem ggL_tryCheapest_X8_cheapest : GoodIn wsL_tryCheapest wsX8_cheapest := goodIn_ca (goodIn_r _ [7, 8, 9, 10, 11, 12, 6, 13, 14, 15, 16, 17, 18, 19, 20, 21, 22, 23, 24, 25, 26, 27, 28, 29, 30, 31, 32, 33, 34, 35, 36, 37, 38, 39, 40, 41, 42, 43, 44, 45, 46, 47, 48, 49, 50, 51, 52, 53, 54, 55, 56, 57, 58, 59, 60, 61, 62, 63, 64, 65, 66, 67, 68, 69, 70, 71, 72, 73, 74, 75, 76, 77] (by decide +kernel) (by decide +kernel)) (goodIn_sub (fun _ h => List.mem_cons_of_mem _ (List.mem_append_right _ h)) (by decide +kernel))
set_option maxRecDepth 20000 in
theorem gL_tryCheapest_X8_cheapest : GoodIn wsL_tryCheapest (wsV RL 100 RX8 yX8_cheapest wsX8_cheapest) := goodIn_app (goodIn_of _ (by decide +kernel)) ggL_tryCheapest_X8_cheapest
set_option maxRecDepth 20000 in
theorem ggL_tryKeep_X8_save : GoodIn wsL_tryKeep wsX8_save := goodIn_ca (goodIn_r _ [7, 8, 9, 10, 11, 12, 13, 14, 6, 15, 16, 17, 18, 19, 20, 21, 22, 23, 24, 25, 26, 27, 28, 29, 30, 31, 32, 33, 34, 35, 36, 37, 38, 39, 40, 41, 42, 43, 44, 45, 46, 47, 48, 49, 50, 51, 52, 53, 54, 55, 56, 57, 58, 59, 60, 61, 62, 63, 64, 65, 66, 67, 68, 69, 70, 71, 72, 73, 74, 75, 76, 77, 78, 79, 80, 81, 82] (by decide +kernel) (by decide +kernel)) (goodIn_sub (fun _ h => List.mem_cons_of_mem _ (List.mem_append_right _ h)) (by decide +kernel))
set_option maxRecDepth 20000 in
theorem gL_tryKeep_X8_save : GoodIn wsL_tryKeep (wsV RL 103 RX8 yX8_save wsX8_save) := goodIn_app (goodIn_of _ (by decide +kernel)) ggL_tryKeep_X8_save
set_option maxRecDepth 20000 in
theorem ggL_tryBack_X8_restore : GoodIn wsL_tryBack wsX8_restore := goodIn_ca (goodIn_ca (goodIn_r _ [9, 10, 11, 12, 13, 14, 15, 16, 17, 18, 19, 8, 20, 21, 22, 23, 24, 25, 26, 27, 28, 29, 30, 31, 32, 33, 34, 35, 36, 37, 38, 39, 40, 41, 42, 43, 44, 45, 46, 47, 48, 49, 50, 51, 52, 53, 54, 55, 56, 57, 58, 59, 60, 61, 62, 63, 64, 65, 66, 67, 68, 69, 70, 71, 72, 73, 74, 75, 76, 77, 78, 79, 80, 81, 82, 83, 84, 85, 86, 87, 88, 89, 90, 91, 92, 93, 94, 95] (by decide +kernel) (by decide +kernel)) (goodIn_sub (fun _ h => List.mem_cons_of_mem _ (List.mem_append_left _ (List.mem_append_right _ h))) (by decide +kernel))) (goodIn_sub (fun _ h => List.mem_cons_of_mem _ (List.mem_append_right _ h)) (by decide +kernel))
set_option maxRecDepth 20000 in
theorem gL_tryBack_X8_restore : GoodIn wsL_tryBack (wsV RL 106 RX8 yX8_restore wsX8_restore) := goodIn_app (goodIn_of _ (by decide +kernel)) ggL_tryBack_X8_restore
