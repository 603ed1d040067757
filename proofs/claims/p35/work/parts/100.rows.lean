def nwF : List (String × Nat × String × String × String) := [(RX8, 44, "SparePool$Text", "length", "I"), (RX8, 71, "SparePool$Text", "command", "I"), (RX8, 77, "SparePool$Text", "first", "I"), (RX8, 80, "SparePool$Text", "second", "I"), (RX8, 83, "SparePool$Text", "third", "I"), (RX5, 125, "SparePool$Units", "kind", "[I"), (RX8, 159, "SparePool$Units", "kind", "[I"), (RX5, 98, "SparePool$Units", "owner", "[I"), (RX8, 163, "SparePool$Units", "owner", "[I"), (RX3, 61, "SparePool$Units", "place", "[I"), (RX5, 101, "SparePool$Units", "place", "[I"), (RX8, 166, "SparePool$Units", "place", "[I"), (RX8, 169, "SparePool$Units", "parts", "[I"), (RX5, 160, "SparePool$Units", "parts", "[I"), (RX5, 104, "SparePool$Units", "due", "[I"), (RX8, 172, "SparePool$Units", "due", "[I"), (RX5, 48, "SparePool$Units", "count", "I"), (RX4, 15, "SparePool$Units", "count", "I"), (RX8, 113, "SparePool$Units", "count", "I"), (RX8, 193, "SparePool$Cores", "count", "[I"), (RX5, 39, "SparePool", "FIRST_SETTING", "[I"), (RX4, 9, "SparePool$State", "units", "LSparePool$Units;"), (RX3, 44, "SparePool$State", "units", "LSparePool$Units;"), (RX8, 109, "SparePool$State", "units", "LSparePool$Units;"), (RX8, 127, "SparePool$State", "cores", "LSparePool$Cores;"), (RX8, 136, "SparePool$State", "debts", "LSparePool$Debts;"), (RX3, 65, "SparePool$State", "account", "[I"), (RX8, 181, "SparePool$State", "account", "[I"), (RX8, 220, "SparePool$State", "setting", "[I"), (RX8, 106, "SparePool$State", "today", "I"), (RX8, 143, "SparePool$State", "takenSoFar", "I"), (RX8, 146, "SparePool$State", "exchangesSoFar", "I"), (RX8, 149, "SparePool$State", "paidOutside", "I"), (RX8, 245, "SparePool$History", "count", "I"), (RX5, 177, "SparePool", "MAX_SETTING", "[I")]
def nwM : List (String × Nat × MethodName) := [(RX8, 9, yX6_init), (RX8, 18, yX5_init), (RX5, 11, yX7_init), (RX5, 20, yX0_init), (RX5, 27, yX1_init), (RX8, 28, yX2_init), (RX2, 17, yX5_init), (RX8, 55, yX6_firstError), (RX8, 261, yX7_dueFirst), (RX8, 267, yX5_accountWhenAllIsSettled), (RX5, 82, yX8_isHolder), (RX5, 188, yX1_owedBy), (RX1, 21, yX8_isHolder), (RX5, 191, yX1_owedTo), (RX5, 89, yX7_has), (RX5, 95, yX7_isFree), (RX8, 51, yX6_add), (RX8, 59, yX5_startAnew), (RX5, 52, yX0_clear), (RX5, 55, yX1_clear), (RX8, 62, yX2_forgetAll), (RX8, 68, yX6_readCommand), (RX8, 86, yX5_tryCome), (RX5, 78, yX8_isKind), (RX5, 85, yX7_add), (RX8, 90, yX5_tryLend), (RX5, 92, yX8_isTerm), (RX8, 93, yX5_tryBring), (RX5, 115, yX7_giveTo), (RX8, 96, yX5_tryExchange), (RX5, 119, yX7_isFreeCore), (RX5, 122, yX7_isGoodSpare), (RX5, 180, yX7_missingParts), (RX8, 100, yX5_tryTake), (RX5, 149, yX8_isPart), (RX5, 152, yX7_isOfKindAt), (RX5, 156, yX7_hasPart), (RX5, 163, yX1_addOne), (RX1, 25, yX8_isKind), (RX1, 28, yX8_isPart), (RX5, 167, yX1_between), (RX8, 103, yX5_tryDays), (RX8, 118, yX7_usableOnes), (RX8, 121, yX7_onLoan), (RX8, 124, yX7_dueBefore), (RX8, 131, yX0_all), (RX8, 140, yX1_all), (RX8, 152, yX7_has), (RX8, 175, yX5_feesFor), (RX8, 184, yX7_ownedBy), (RX8, 187, yX7_placedAt), (RX8, 190, yX7_borrowedBy), (RX8, 195, yX1_owedBy), (RX8, 198, yX1_owedTo), (RX8, 207, yX1_between), (RX8, 211, yX0_kindOf), (RX0, 27, yX8_isHolder), (RX8, 214, yX0_dueOf), (RX8, 223, yX2_prepare), (RX2, 25, yX5_copyFrom), (RX5, 68, yX7_copyFrom), (RX5, 72, yX0_copyFrom), (RX5, 75, yX1_copyFrom), (RX8, 249, yX2_keepPrepared), (RX8, 230, yX5_tryAdvance), (RX5, 132, yX0_hasRoom), (RX5, 135, yX0_add), (RX8, 233, yX5_tryDeliver), (RX5, 137, yX0_oldest), (RX5, 140, yX0_dueOf), (RX5, 146, yX0_remove), (RX8, 236, yX5_trySettle), (RX5, 171, yX1_removeOne), (RX8, 239, yX5_tryBuy), (RX8, 242, yX5_trySet), (RX5, 174, yX8_isSetting), (RX8, 246, yX2_takeBack), (RX8, 252, yX7_mostCompleted), (RX8, 255, yX7_fewestTakings), (RX8, 258, yX5_feesToPay), (RX8, 264, yX5_cheapestCore), (RX8, 270, yX3_limit), (RX8, 276, yX5_copyFrom), (RX8, 279, yX3_group), (RX8, 283, yX3_succeeds), (RX3, 14, yX5_tryLend), (RX3, 20, yX5_tryBring), (RX3, 24, yX5_tryExchange), (RX3, 28, yX5_tryTake), (RX3, 31, yX5_tryDays), (RX3, 34, yX5_tryBuy), (RX3, 54, yX7_has), (RX3, 58, yX8_isHolder), (RX3, 48, yX7_usableOnes), (RX8, 291, yX4_turn), (RX4, 28, yX5_tryCome), (RX4, 32, yX5_tryLend), (RX4, 35, yX5_tryBring), (RX4, 39, yX5_tryExchange), (RX4, 42, yX5_tryAdvance), (RX4, 45, yX5_tryDeliver), (RX4, 48, yX5_tryTake), (RX4, 51, yX5_tryBuy), (RX4, 54, yX5_trySettle), (RX4, 58, yX5_tryDays)]
def NW (U : State) : Prop := (∀ q ∈ nwF, va_Nw (.fieldLinkNest q.1 q.2.1 q.2.2.1 q.2.2.2.1 q.2.2.2.2 "SparePool") U) ∧ (∀ q ∈ nwM, va_Nw (.methodLinkNest q.1 q.2.1 q.2.2 "SparePool") U)
theorem NW.warm {s U : State} (hW : s.WarmedH U.vm) (h : NW s) : NW U := ⟨fun q hq => (h.1 q hq).warmF hW, fun q hq => (h.2 q hq).warmM hW⟩
theorem NW.same {u U : State} (e : u.vm = U.vm) (h : NW u) : NW U := ⟨fun q hq => (h.1 q hq).same rfl e, fun q hq => (h.2 q hq).same rfl e⟩
theorem nw_X8_44 {U : State} (h : NW U) : va_Nw (.fieldLinkNest RX8 44 "SparePool$Text" "length" "I" "SparePool") U := h.1 (RX8, 44, "SparePool$Text", "length", "I") (List.mem_of_getElem? (i := 0) rfl)
theorem nw_X8_71 {U : State} (h : NW U) : va_Nw (.fieldLinkNest RX8 71 "SparePool$Text" "command" "I" "SparePool") U := h.1 (RX8, 71, "SparePool$Text", "command", "I") (List.mem_of_getElem? (i := 1) rfl)
theorem nw_X8_77 {U : State} (h : NW U) : va_Nw (.fieldLinkNest RX8 77 "SparePool$Text" "first" "I" "SparePool") U := h.1 (RX8, 77, "SparePool$Text", "first", "I") (List.mem_of_getElem? (i := 2) rfl)
theorem nw_X8_80 {U : State} (h : NW U) : va_Nw (.fieldLinkNest RX8 80 "SparePool$Text" "second" "I" "SparePool") U := h.1 (RX8, 80, "SparePool$Text", "second", "I") (List.mem_of_getElem? (i := 3) rfl)
theorem nw_X8_83 {U : State} (h : NW U) : va_Nw (.fieldLinkNest RX8 83 "SparePool$Text" "third" "I" "SparePool") U := h.1 (RX8, 83, "SparePool$Text", "third", "I") (List.mem_of_getElem? (i := 4) rfl)
theorem nw_X5_125 {U : State} (h : NW U) : va_Nw (.fieldLinkNest RX5 125 "SparePool$Units" "kind" "[I" "SparePool") U := h.1 (RX5, 125, "SparePool$Units", "kind", "[I") (List.mem_of_getElem? (i := 5) rfl)
theorem nw_X8_159 {U : State} (h : NW U) : va_Nw (.fieldLinkNest RX8 159 "SparePool$Units" "kind" "[I" "SparePool") U := h.1 (RX8, 159, "SparePool$Units", "kind", "[I") (List.mem_of_getElem? (i := 6) rfl)
theorem nw_X5_98 {U : State} (h : NW U) : va_Nw (.fieldLinkNest RX5 98 "SparePool$Units" "owner" "[I" "SparePool") U := h.1 (RX5, 98, "SparePool$Units", "owner", "[I") (List.mem_of_getElem? (i := 7) rfl)
theorem nw_X8_163 {U : State} (h : NW U) : va_Nw (.fieldLinkNest RX8 163 "SparePool$Units" "owner" "[I" "SparePool") U := h.1 (RX8, 163, "SparePool$Units", "owner", "[I") (List.mem_of_getElem? (i := 8) rfl)
theorem nw_X3_61 {U : State} (h : NW U) : va_Nw (.fieldLinkNest RX3 61 "SparePool$Units" "place" "[I" "SparePool") U := h.1 (RX3, 61, "SparePool$Units", "place", "[I") (List.mem_of_getElem? (i := 9) rfl)
theorem nw_X5_101 {U : State} (h : NW U) : va_Nw (.fieldLinkNest RX5 101 "SparePool$Units" "place" "[I" "SparePool") U := h.1 (RX5, 101, "SparePool$Units", "place", "[I") (List.mem_of_getElem? (i := 10) rfl)
theorem nw_X8_166 {U : State} (h : NW U) : va_Nw (.fieldLinkNest RX8 166 "SparePool$Units" "place" "[I" "SparePool") U := h.1 (RX8, 166, "SparePool$Units", "place", "[I") (List.mem_of_getElem? (i := 11) rfl)
theorem nw_X8_169 {U : State} (h : NW U) : va_Nw (.fieldLinkNest RX8 169 "SparePool$Units" "parts" "[I" "SparePool") U := h.1 (RX8, 169, "SparePool$Units", "parts", "[I") (List.mem_of_getElem? (i := 12) rfl)
theorem nw_X5_160 {U : State} (h : NW U) : va_Nw (.fieldLinkNest RX5 160 "SparePool$Units" "parts" "[I" "SparePool") U := h.1 (RX5, 160, "SparePool$Units", "parts", "[I") (List.mem_of_getElem? (i := 13) rfl)
theorem nw_X5_104 {U : State} (h : NW U) : va_Nw (.fieldLinkNest RX5 104 "SparePool$Units" "due" "[I" "SparePool") U := h.1 (RX5, 104, "SparePool$Units", "due", "[I") (List.mem_of_getElem? (i := 14) rfl)
theorem nw_X8_172 {U : State} (h : NW U) : va_Nw (.fieldLinkNest RX8 172 "SparePool$Units" "due" "[I" "SparePool") U := h.1 (RX8, 172, "SparePool$Units", "due", "[I") (List.mem_of_getElem? (i := 15) rfl)
theorem nw_X5_48 {U : State} (h : NW U) : va_Nw (.fieldLinkNest RX5 48 "SparePool$Units" "count" "I" "SparePool") U := h.1 (RX5, 48, "SparePool$Units", "count", "I") (List.mem_of_getElem? (i := 16) rfl)
theorem nw_X4_15 {U : State} (h : NW U) : va_Nw (.fieldLinkNest RX4 15 "SparePool$Units" "count" "I" "SparePool") U := h.1 (RX4, 15, "SparePool$Units", "count", "I") (List.mem_of_getElem? (i := 17) rfl)
theorem nw_X8_113 {U : State} (h : NW U) : va_Nw (.fieldLinkNest RX8 113 "SparePool$Units" "count" "I" "SparePool") U := h.1 (RX8, 113, "SparePool$Units", "count", "I") (List.mem_of_getElem? (i := 18) rfl)
theorem nw_X8_193 {U : State} (h : NW U) : va_Nw (.fieldLinkNest RX8 193 "SparePool$Cores" "count" "[I" "SparePool") U := h.1 (RX8, 193, "SparePool$Cores", "count", "[I") (List.mem_of_getElem? (i := 19) rfl)
theorem nw_X5_39 {U : State} (h : NW U) : va_Nw (.fieldLinkNest RX5 39 "SparePool" "FIRST_SETTING" "[I" "SparePool") U := h.1 (RX5, 39, "SparePool", "FIRST_SETTING", "[I") (List.mem_of_getElem? (i := 20) rfl)
theorem nw_X4_9 {U : State} (h : NW U) : va_Nw (.fieldLinkNest RX4 9 "SparePool$State" "units" "LSparePool$Units;" "SparePool") U := h.1 (RX4, 9, "SparePool$State", "units", "LSparePool$Units;") (List.mem_of_getElem? (i := 21) rfl)
theorem nw_X3_44 {U : State} (h : NW U) : va_Nw (.fieldLinkNest RX3 44 "SparePool$State" "units" "LSparePool$Units;" "SparePool") U := h.1 (RX3, 44, "SparePool$State", "units", "LSparePool$Units;") (List.mem_of_getElem? (i := 22) rfl)
theorem nw_X8_109 {U : State} (h : NW U) : va_Nw (.fieldLinkNest RX8 109 "SparePool$State" "units" "LSparePool$Units;" "SparePool") U := h.1 (RX8, 109, "SparePool$State", "units", "LSparePool$Units;") (List.mem_of_getElem? (i := 23) rfl)
theorem nw_X8_127 {U : State} (h : NW U) : va_Nw (.fieldLinkNest RX8 127 "SparePool$State" "cores" "LSparePool$Cores;" "SparePool") U := h.1 (RX8, 127, "SparePool$State", "cores", "LSparePool$Cores;") (List.mem_of_getElem? (i := 24) rfl)
theorem nw_X8_136 {U : State} (h : NW U) : va_Nw (.fieldLinkNest RX8 136 "SparePool$State" "debts" "LSparePool$Debts;" "SparePool") U := h.1 (RX8, 136, "SparePool$State", "debts", "LSparePool$Debts;") (List.mem_of_getElem? (i := 25) rfl)
theorem nw_X3_65 {U : State} (h : NW U) : va_Nw (.fieldLinkNest RX3 65 "SparePool$State" "account" "[I" "SparePool") U := h.1 (RX3, 65, "SparePool$State", "account", "[I") (List.mem_of_getElem? (i := 26) rfl)
theorem nw_X8_181 {U : State} (h : NW U) : va_Nw (.fieldLinkNest RX8 181 "SparePool$State" "account" "[I" "SparePool") U := h.1 (RX8, 181, "SparePool$State", "account", "[I") (List.mem_of_getElem? (i := 27) rfl)
theorem nw_X8_220 {U : State} (h : NW U) : va_Nw (.fieldLinkNest RX8 220 "SparePool$State" "setting" "[I" "SparePool") U := h.1 (RX8, 220, "SparePool$State", "setting", "[I") (List.mem_of_getElem? (i := 28) rfl)
theorem nw_X8_106 {U : State} (h : NW U) : va_Nw (.fieldLinkNest RX8 106 "SparePool$State" "today" "I" "SparePool") U := h.1 (RX8, 106, "SparePool$State", "today", "I") (List.mem_of_getElem? (i := 29) rfl)
theorem nw_X8_143 {U : State} (h : NW U) : va_Nw (.fieldLinkNest RX8 143 "SparePool$State" "takenSoFar" "I" "SparePool") U := h.1 (RX8, 143, "SparePool$State", "takenSoFar", "I") (List.mem_of_getElem? (i := 30) rfl)
theorem nw_X8_146 {U : State} (h : NW U) : va_Nw (.fieldLinkNest RX8 146 "SparePool$State" "exchangesSoFar" "I" "SparePool") U := h.1 (RX8, 146, "SparePool$State", "exchangesSoFar", "I") (List.mem_of_getElem? (i := 31) rfl)
theorem nw_X8_149 {U : State} (h : NW U) : va_Nw (.fieldLinkNest RX8 149 "SparePool$State" "paidOutside" "I" "SparePool") U := h.1 (RX8, 149, "SparePool$State", "paidOutside", "I") (List.mem_of_getElem? (i := 32) rfl)
theorem nw_X8_245 {U : State} (h : NW U) : va_Nw (.fieldLinkNest RX8 245 "SparePool$History" "count" "I" "SparePool") U := h.1 (RX8, 245, "SparePool$History", "count", "I") (List.mem_of_getElem? (i := 33) rfl)
theorem nw_X5_177 {U : State} (h : NW U) : va_Nw (.fieldLinkNest RX5 177 "SparePool" "MAX_SETTING" "[I" "SparePool") U := h.1 (RX5, 177, "SparePool", "MAX_SETTING", "[I") (List.mem_of_getElem? (i := 34) rfl)
theorem nw_X8_9 {U : State} (h : NW U) : va_Nw (.methodLinkNest RX8 9 yX6_init "SparePool") U := h.2 (RX8, 9, yX6_init) (List.mem_of_getElem? (i := 0) rfl)
theorem nw_X8_18 {U : State} (h : NW U) : va_Nw (.methodLinkNest RX8 18 yX5_init "SparePool") U := h.2 (RX8, 18, yX5_init) (List.mem_of_getElem? (i := 1) rfl)
theorem nw_X5_11 {U : State} (h : NW U) : va_Nw (.methodLinkNest RX5 11 yX7_init "SparePool") U := h.2 (RX5, 11, yX7_init) (List.mem_of_getElem? (i := 2) rfl)
theorem nw_X5_20 {U : State} (h : NW U) : va_Nw (.methodLinkNest RX5 20 yX0_init "SparePool") U := h.2 (RX5, 20, yX0_init) (List.mem_of_getElem? (i := 3) rfl)
theorem nw_X5_27 {U : State} (h : NW U) : va_Nw (.methodLinkNest RX5 27 yX1_init "SparePool") U := h.2 (RX5, 27, yX1_init) (List.mem_of_getElem? (i := 4) rfl)
theorem nw_X8_28 {U : State} (h : NW U) : va_Nw (.methodLinkNest RX8 28 yX2_init "SparePool") U := h.2 (RX8, 28, yX2_init) (List.mem_of_getElem? (i := 5) rfl)
theorem nw_X2_17 {U : State} (h : NW U) : va_Nw (.methodLinkNest RX2 17 yX5_init "SparePool") U := h.2 (RX2, 17, yX5_init) (List.mem_of_getElem? (i := 6) rfl)
theorem nw_X8_55 {U : State} (h : NW U) : va_Nw (.methodLinkNest RX8 55 yX6_firstError "SparePool") U := h.2 (RX8, 55, yX6_firstError) (List.mem_of_getElem? (i := 7) rfl)
theorem nw_X8_261 {U : State} (h : NW U) : va_Nw (.methodLinkNest RX8 261 yX7_dueFirst "SparePool") U := h.2 (RX8, 261, yX7_dueFirst) (List.mem_of_getElem? (i := 8) rfl)
theorem nw_X8_267 {U : State} (h : NW U) : va_Nw (.methodLinkNest RX8 267 yX5_accountWhenAllIsSettled "SparePool") U := h.2 (RX8, 267, yX5_accountWhenAllIsSettled) (List.mem_of_getElem? (i := 9) rfl)
theorem nw_X5_82 {U : State} (h : NW U) : va_Nw (.methodLinkNest RX5 82 yX8_isHolder "SparePool") U := h.2 (RX5, 82, yX8_isHolder) (List.mem_of_getElem? (i := 10) rfl)
theorem nw_X5_188 {U : State} (h : NW U) : va_Nw (.methodLinkNest RX5 188 yX1_owedBy "SparePool") U := h.2 (RX5, 188, yX1_owedBy) (List.mem_of_getElem? (i := 11) rfl)
theorem nw_X1_21 {U : State} (h : NW U) : va_Nw (.methodLinkNest RX1 21 yX8_isHolder "SparePool") U := h.2 (RX1, 21, yX8_isHolder) (List.mem_of_getElem? (i := 12) rfl)
theorem nw_X5_191 {U : State} (h : NW U) : va_Nw (.methodLinkNest RX5 191 yX1_owedTo "SparePool") U := h.2 (RX5, 191, yX1_owedTo) (List.mem_of_getElem? (i := 13) rfl)
theorem nw_X5_89 {U : State} (h : NW U) : va_Nw (.methodLinkNest RX5 89 yX7_has "SparePool") U := h.2 (RX5, 89, yX7_has) (List.mem_of_getElem? (i := 14) rfl)
theorem nw_X5_95 {U : State} (h : NW U) : va_Nw (.methodLinkNest RX5 95 yX7_isFree "SparePool") U := h.2 (RX5, 95, yX7_isFree) (List.mem_of_getElem? (i := 15) rfl)
theorem nw_X8_51 {U : State} (h : NW U) : va_Nw (.methodLinkNest RX8 51 yX6_add "SparePool") U := h.2 (RX8, 51, yX6_add) (List.mem_of_getElem? (i := 16) rfl)
theorem nw_X8_59 {U : State} (h : NW U) : va_Nw (.methodLinkNest RX8 59 yX5_startAnew "SparePool") U := h.2 (RX8, 59, yX5_startAnew) (List.mem_of_getElem? (i := 17) rfl)
theorem nw_X5_52 {U : State} (h : NW U) : va_Nw (.methodLinkNest RX5 52 yX0_clear "SparePool") U := h.2 (RX5, 52, yX0_clear) (List.mem_of_getElem? (i := 18) rfl)
theorem nw_X5_55 {U : State} (h : NW U) : va_Nw (.methodLinkNest RX5 55 yX1_clear "SparePool") U := h.2 (RX5, 55, yX1_clear) (List.mem_of_getElem? (i := 19) rfl)
theorem nw_X8_62 {U : State} (h : NW U) : va_Nw (.methodLinkNest RX8 62 yX2_forgetAll "SparePool") U := h.2 (RX8, 62, yX2_forgetAll) (List.mem_of_getElem? (i := 20) rfl)
theorem nw_X8_68 {U : State} (h : NW U) : va_Nw (.methodLinkNest RX8 68 yX6_readCommand "SparePool") U := h.2 (RX8, 68, yX6_readCommand) (List.mem_of_getElem? (i := 21) rfl)
theorem nw_X8_86 {U : State} (h : NW U) : va_Nw (.methodLinkNest RX8 86 yX5_tryCome "SparePool") U := h.2 (RX8, 86, yX5_tryCome) (List.mem_of_getElem? (i := 22) rfl)
theorem nw_X5_78 {U : State} (h : NW U) : va_Nw (.methodLinkNest RX5 78 yX8_isKind "SparePool") U := h.2 (RX5, 78, yX8_isKind) (List.mem_of_getElem? (i := 23) rfl)
theorem nw_X5_85 {U : State} (h : NW U) : va_Nw (.methodLinkNest RX5 85 yX7_add "SparePool") U := h.2 (RX5, 85, yX7_add) (List.mem_of_getElem? (i := 24) rfl)
theorem nw_X8_90 {U : State} (h : NW U) : va_Nw (.methodLinkNest RX8 90 yX5_tryLend "SparePool") U := h.2 (RX8, 90, yX5_tryLend) (List.mem_of_getElem? (i := 25) rfl)
theorem nw_X5_92 {U : State} (h : NW U) : va_Nw (.methodLinkNest RX5 92 yX8_isTerm "SparePool") U := h.2 (RX5, 92, yX8_isTerm) (List.mem_of_getElem? (i := 26) rfl)
theorem nw_X8_93 {U : State} (h : NW U) : va_Nw (.methodLinkNest RX8 93 yX5_tryBring "SparePool") U := h.2 (RX8, 93, yX5_tryBring) (List.mem_of_getElem? (i := 27) rfl)
theorem nw_X5_115 {U : State} (h : NW U) : va_Nw (.methodLinkNest RX5 115 yX7_giveTo "SparePool") U := h.2 (RX5, 115, yX7_giveTo) (List.mem_of_getElem? (i := 28) rfl)
theorem nw_X8_96 {U : State} (h : NW U) : va_Nw (.methodLinkNest RX8 96 yX5_tryExchange "SparePool") U := h.2 (RX8, 96, yX5_tryExchange) (List.mem_of_getElem? (i := 29) rfl)
theorem nw_X5_119 {U : State} (h : NW U) : va_Nw (.methodLinkNest RX5 119 yX7_isFreeCore "SparePool") U := h.2 (RX5, 119, yX7_isFreeCore) (List.mem_of_getElem? (i := 30) rfl)
theorem nw_X5_122 {U : State} (h : NW U) : va_Nw (.methodLinkNest RX5 122 yX7_isGoodSpare "SparePool") U := h.2 (RX5, 122, yX7_isGoodSpare) (List.mem_of_getElem? (i := 31) rfl)
theorem nw_X5_180 {U : State} (h : NW U) : va_Nw (.methodLinkNest RX5 180 yX7_missingParts "SparePool") U := h.2 (RX5, 180, yX7_missingParts) (List.mem_of_getElem? (i := 32) rfl)
theorem nw_X8_100 {U : State} (h : NW U) : va_Nw (.methodLinkNest RX8 100 yX5_tryTake "SparePool") U := h.2 (RX8, 100, yX5_tryTake) (List.mem_of_getElem? (i := 33) rfl)
theorem nw_X5_149 {U : State} (h : NW U) : va_Nw (.methodLinkNest RX5 149 yX8_isPart "SparePool") U := h.2 (RX5, 149, yX8_isPart) (List.mem_of_getElem? (i := 34) rfl)
theorem nw_X5_152 {U : State} (h : NW U) : va_Nw (.methodLinkNest RX5 152 yX7_isOfKindAt "SparePool") U := h.2 (RX5, 152, yX7_isOfKindAt) (List.mem_of_getElem? (i := 35) rfl)
theorem nw_X5_156 {U : State} (h : NW U) : va_Nw (.methodLinkNest RX5 156 yX7_hasPart "SparePool") U := h.2 (RX5, 156, yX7_hasPart) (List.mem_of_getElem? (i := 36) rfl)
theorem nw_X5_163 {U : State} (h : NW U) : va_Nw (.methodLinkNest RX5 163 yX1_addOne "SparePool") U := h.2 (RX5, 163, yX1_addOne) (List.mem_of_getElem? (i := 37) rfl)
theorem nw_X1_25 {U : State} (h : NW U) : va_Nw (.methodLinkNest RX1 25 yX8_isKind "SparePool") U := h.2 (RX1, 25, yX8_isKind) (List.mem_of_getElem? (i := 38) rfl)
theorem nw_X1_28 {U : State} (h : NW U) : va_Nw (.methodLinkNest RX1 28 yX8_isPart "SparePool") U := h.2 (RX1, 28, yX8_isPart) (List.mem_of_getElem? (i := 39) rfl)
theorem nw_X5_167 {U : State} (h : NW U) : va_Nw (.methodLinkNest RX5 167 yX1_between "SparePool") U := h.2 (RX5, 167, yX1_between) (List.mem_of_getElem? (i := 40) rfl)
theorem nw_X8_103 {U : State} (h : NW U) : va_Nw (.methodLinkNest RX8 103 yX5_tryDays "SparePool") U := h.2 (RX8, 103, yX5_tryDays) (List.mem_of_getElem? (i := 41) rfl)
theorem nw_X8_118 {U : State} (h : NW U) : va_Nw (.methodLinkNest RX8 118 yX7_usableOnes "SparePool") U := h.2 (RX8, 118, yX7_usableOnes) (List.mem_of_getElem? (i := 42) rfl)
theorem nw_X8_121 {U : State} (h : NW U) : va_Nw (.methodLinkNest RX8 121 yX7_onLoan "SparePool") U := h.2 (RX8, 121, yX7_onLoan) (List.mem_of_getElem? (i := 43) rfl)
theorem nw_X8_124 {U : State} (h : NW U) : va_Nw (.methodLinkNest RX8 124 yX7_dueBefore "SparePool") U := h.2 (RX8, 124, yX7_dueBefore) (List.mem_of_getElem? (i := 44) rfl)
theorem nw_X8_131 {U : State} (h : NW U) : va_Nw (.methodLinkNest RX8 131 yX0_all "SparePool") U := h.2 (RX8, 131, yX0_all) (List.mem_of_getElem? (i := 45) rfl)
theorem nw_X8_140 {U : State} (h : NW U) : va_Nw (.methodLinkNest RX8 140 yX1_all "SparePool") U := h.2 (RX8, 140, yX1_all) (List.mem_of_getElem? (i := 46) rfl)
theorem nw_X8_152 {U : State} (h : NW U) : va_Nw (.methodLinkNest RX8 152 yX7_has "SparePool") U := h.2 (RX8, 152, yX7_has) (List.mem_of_getElem? (i := 47) rfl)
theorem nw_X8_175 {U : State} (h : NW U) : va_Nw (.methodLinkNest RX8 175 yX5_feesFor "SparePool") U := h.2 (RX8, 175, yX5_feesFor) (List.mem_of_getElem? (i := 48) rfl)
theorem nw_X8_184 {U : State} (h : NW U) : va_Nw (.methodLinkNest RX8 184 yX7_ownedBy "SparePool") U := h.2 (RX8, 184, yX7_ownedBy) (List.mem_of_getElem? (i := 49) rfl)
theorem nw_X8_187 {U : State} (h : NW U) : va_Nw (.methodLinkNest RX8 187 yX7_placedAt "SparePool") U := h.2 (RX8, 187, yX7_placedAt) (List.mem_of_getElem? (i := 50) rfl)
theorem nw_X8_190 {U : State} (h : NW U) : va_Nw (.methodLinkNest RX8 190 yX7_borrowedBy "SparePool") U := h.2 (RX8, 190, yX7_borrowedBy) (List.mem_of_getElem? (i := 51) rfl)
theorem nw_X8_195 {U : State} (h : NW U) : va_Nw (.methodLinkNest RX8 195 yX1_owedBy "SparePool") U := h.2 (RX8, 195, yX1_owedBy) (List.mem_of_getElem? (i := 52) rfl)
theorem nw_X8_198 {U : State} (h : NW U) : va_Nw (.methodLinkNest RX8 198 yX1_owedTo "SparePool") U := h.2 (RX8, 198, yX1_owedTo) (List.mem_of_getElem? (i := 53) rfl)
theorem nw_X8_207 {U : State} (h : NW U) : va_Nw (.methodLinkNest RX8 207 yX1_between "SparePool") U := h.2 (RX8, 207, yX1_between) (List.mem_of_getElem? (i := 54) rfl)
theorem nw_X8_211 {U : State} (h : NW U) : va_Nw (.methodLinkNest RX8 211 yX0_kindOf "SparePool") U := h.2 (RX8, 211, yX0_kindOf) (List.mem_of_getElem? (i := 55) rfl)
theorem nw_X0_27 {U : State} (h : NW U) : va_Nw (.methodLinkNest RX0 27 yX8_isHolder "SparePool") U := h.2 (RX0, 27, yX8_isHolder) (List.mem_of_getElem? (i := 56) rfl)
theorem nw_X8_214 {U : State} (h : NW U) : va_Nw (.methodLinkNest RX8 214 yX0_dueOf "SparePool") U := h.2 (RX8, 214, yX0_dueOf) (List.mem_of_getElem? (i := 57) rfl)
theorem nw_X8_223 {U : State} (h : NW U) : va_Nw (.methodLinkNest RX8 223 yX2_prepare "SparePool") U := h.2 (RX8, 223, yX2_prepare) (List.mem_of_getElem? (i := 58) rfl)
theorem nw_X2_25 {U : State} (h : NW U) : va_Nw (.methodLinkNest RX2 25 yX5_copyFrom "SparePool") U := h.2 (RX2, 25, yX5_copyFrom) (List.mem_of_getElem? (i := 59) rfl)
theorem nw_X5_68 {U : State} (h : NW U) : va_Nw (.methodLinkNest RX5 68 yX7_copyFrom "SparePool") U := h.2 (RX5, 68, yX7_copyFrom) (List.mem_of_getElem? (i := 60) rfl)
theorem nw_X5_72 {U : State} (h : NW U) : va_Nw (.methodLinkNest RX5 72 yX0_copyFrom "SparePool") U := h.2 (RX5, 72, yX0_copyFrom) (List.mem_of_getElem? (i := 61) rfl)
theorem nw_X5_75 {U : State} (h : NW U) : va_Nw (.methodLinkNest RX5 75 yX1_copyFrom "SparePool") U := h.2 (RX5, 75, yX1_copyFrom) (List.mem_of_getElem? (i := 62) rfl)
theorem nw_X8_249 {U : State} (h : NW U) : va_Nw (.methodLinkNest RX8 249 yX2_keepPrepared "SparePool") U := h.2 (RX8, 249, yX2_keepPrepared) (List.mem_of_getElem? (i := 63) rfl)
theorem nw_X8_230 {U : State} (h : NW U) : va_Nw (.methodLinkNest RX8 230 yX5_tryAdvance "SparePool") U := h.2 (RX8, 230, yX5_tryAdvance) (List.mem_of_getElem? (i := 64) rfl)
theorem nw_X5_132 {U : State} (h : NW U) : va_Nw (.methodLinkNest RX5 132 yX0_hasRoom "SparePool") U := h.2 (RX5, 132, yX0_hasRoom) (List.mem_of_getElem? (i := 65) rfl)
theorem nw_X5_135 {U : State} (h : NW U) : va_Nw (.methodLinkNest RX5 135 yX0_add "SparePool") U := h.2 (RX5, 135, yX0_add) (List.mem_of_getElem? (i := 66) rfl)
theorem nw_X8_233 {U : State} (h : NW U) : va_Nw (.methodLinkNest RX8 233 yX5_tryDeliver "SparePool") U := h.2 (RX8, 233, yX5_tryDeliver) (List.mem_of_getElem? (i := 67) rfl)
theorem nw_X5_137 {U : State} (h : NW U) : va_Nw (.methodLinkNest RX5 137 yX0_oldest "SparePool") U := h.2 (RX5, 137, yX0_oldest) (List.mem_of_getElem? (i := 68) rfl)
theorem nw_X5_140 {U : State} (h : NW U) : va_Nw (.methodLinkNest RX5 140 yX0_dueOf "SparePool") U := h.2 (RX5, 140, yX0_dueOf) (List.mem_of_getElem? (i := 69) rfl)
theorem nw_X5_146 {U : State} (h : NW U) : va_Nw (.methodLinkNest RX5 146 yX0_remove "SparePool") U := h.2 (RX5, 146, yX0_remove) (List.mem_of_getElem? (i := 70) rfl)
theorem nw_X8_236 {U : State} (h : NW U) : va_Nw (.methodLinkNest RX8 236 yX5_trySettle "SparePool") U := h.2 (RX8, 236, yX5_trySettle) (List.mem_of_getElem? (i := 71) rfl)
theorem nw_X5_171 {U : State} (h : NW U) : va_Nw (.methodLinkNest RX5 171 yX1_removeOne "SparePool") U := h.2 (RX5, 171, yX1_removeOne) (List.mem_of_getElem? (i := 72) rfl)
theorem nw_X8_239 {U : State} (h : NW U) : va_Nw (.methodLinkNest RX8 239 yX5_tryBuy "SparePool") U := h.2 (RX8, 239, yX5_tryBuy) (List.mem_of_getElem? (i := 73) rfl)
theorem nw_X8_242 {U : State} (h : NW U) : va_Nw (.methodLinkNest RX8 242 yX5_trySet "SparePool") U := h.2 (RX8, 242, yX5_trySet) (List.mem_of_getElem? (i := 74) rfl)
theorem nw_X5_174 {U : State} (h : NW U) : va_Nw (.methodLinkNest RX5 174 yX8_isSetting "SparePool") U := h.2 (RX5, 174, yX8_isSetting) (List.mem_of_getElem? (i := 75) rfl)
theorem nw_X8_246 {U : State} (h : NW U) : va_Nw (.methodLinkNest RX8 246 yX2_takeBack "SparePool") U := h.2 (RX8, 246, yX2_takeBack) (List.mem_of_getElem? (i := 76) rfl)
theorem nw_X8_252 {U : State} (h : NW U) : va_Nw (.methodLinkNest RX8 252 yX7_mostCompleted "SparePool") U := h.2 (RX8, 252, yX7_mostCompleted) (List.mem_of_getElem? (i := 77) rfl)
theorem nw_X8_255 {U : State} (h : NW U) : va_Nw (.methodLinkNest RX8 255 yX7_fewestTakings "SparePool") U := h.2 (RX8, 255, yX7_fewestTakings) (List.mem_of_getElem? (i := 78) rfl)
theorem nw_X8_258 {U : State} (h : NW U) : va_Nw (.methodLinkNest RX8 258 yX5_feesToPay "SparePool") U := h.2 (RX8, 258, yX5_feesToPay) (List.mem_of_getElem? (i := 79) rfl)
theorem nw_X8_264 {U : State} (h : NW U) : va_Nw (.methodLinkNest RX8 264 yX5_cheapestCore "SparePool") U := h.2 (RX8, 264, yX5_cheapestCore) (List.mem_of_getElem? (i := 80) rfl)
theorem nw_X8_270 {U : State} (h : NW U) : va_Nw (.methodLinkNest RX8 270 yX3_limit "SparePool") U := h.2 (RX8, 270, yX3_limit) (List.mem_of_getElem? (i := 81) rfl)
theorem nw_X8_276 {U : State} (h : NW U) : va_Nw (.methodLinkNest RX8 276 yX5_copyFrom "SparePool") U := h.2 (RX8, 276, yX5_copyFrom) (List.mem_of_getElem? (i := 82) rfl)
theorem nw_X8_279 {U : State} (h : NW U) : va_Nw (.methodLinkNest RX8 279 yX3_group "SparePool") U := h.2 (RX8, 279, yX3_group) (List.mem_of_getElem? (i := 83) rfl)
theorem nw_X8_283 {U : State} (h : NW U) : va_Nw (.methodLinkNest RX8 283 yX3_succeeds "SparePool") U := h.2 (RX8, 283, yX3_succeeds) (List.mem_of_getElem? (i := 84) rfl)
theorem nw_X3_14 {U : State} (h : NW U) : va_Nw (.methodLinkNest RX3 14 yX5_tryLend "SparePool") U := h.2 (RX3, 14, yX5_tryLend) (List.mem_of_getElem? (i := 85) rfl)
theorem nw_X3_20 {U : State} (h : NW U) : va_Nw (.methodLinkNest RX3 20 yX5_tryBring "SparePool") U := h.2 (RX3, 20, yX5_tryBring) (List.mem_of_getElem? (i := 86) rfl)
theorem nw_X3_24 {U : State} (h : NW U) : va_Nw (.methodLinkNest RX3 24 yX5_tryExchange "SparePool") U := h.2 (RX3, 24, yX5_tryExchange) (List.mem_of_getElem? (i := 87) rfl)
theorem nw_X3_28 {U : State} (h : NW U) : va_Nw (.methodLinkNest RX3 28 yX5_tryTake "SparePool") U := h.2 (RX3, 28, yX5_tryTake) (List.mem_of_getElem? (i := 88) rfl)
theorem nw_X3_31 {U : State} (h : NW U) : va_Nw (.methodLinkNest RX3 31 yX5_tryDays "SparePool") U := h.2 (RX3, 31, yX5_tryDays) (List.mem_of_getElem? (i := 89) rfl)
theorem nw_X3_34 {U : State} (h : NW U) : va_Nw (.methodLinkNest RX3 34 yX5_tryBuy "SparePool") U := h.2 (RX3, 34, yX5_tryBuy) (List.mem_of_getElem? (i := 90) rfl)
theorem nw_X3_54 {U : State} (h : NW U) : va_Nw (.methodLinkNest RX3 54 yX7_has "SparePool") U := h.2 (RX3, 54, yX7_has) (List.mem_of_getElem? (i := 91) rfl)
theorem nw_X3_58 {U : State} (h : NW U) : va_Nw (.methodLinkNest RX3 58 yX8_isHolder "SparePool") U := h.2 (RX3, 58, yX8_isHolder) (List.mem_of_getElem? (i := 92) rfl)
theorem nw_X3_48 {U : State} (h : NW U) : va_Nw (.methodLinkNest RX3 48 yX7_usableOnes "SparePool") U := h.2 (RX3, 48, yX7_usableOnes) (List.mem_of_getElem? (i := 93) rfl)
theorem nw_X8_291 {U : State} (h : NW U) : va_Nw (.methodLinkNest RX8 291 yX4_turn "SparePool") U := h.2 (RX8, 291, yX4_turn) (List.mem_of_getElem? (i := 94) rfl)
theorem nw_X4_28 {U : State} (h : NW U) : va_Nw (.methodLinkNest RX4 28 yX5_tryCome "SparePool") U := h.2 (RX4, 28, yX5_tryCome) (List.mem_of_getElem? (i := 95) rfl)
theorem nw_X4_32 {U : State} (h : NW U) : va_Nw (.methodLinkNest RX4 32 yX5_tryLend "SparePool") U := h.2 (RX4, 32, yX5_tryLend) (List.mem_of_getElem? (i := 96) rfl)
theorem nw_X4_35 {U : State} (h : NW U) : va_Nw (.methodLinkNest RX4 35 yX5_tryBring "SparePool") U := h.2 (RX4, 35, yX5_tryBring) (List.mem_of_getElem? (i := 97) rfl)
theorem nw_X4_39 {U : State} (h : NW U) : va_Nw (.methodLinkNest RX4 39 yX5_tryExchange "SparePool") U := h.2 (RX4, 39, yX5_tryExchange) (List.mem_of_getElem? (i := 98) rfl)
theorem nw_X4_42 {U : State} (h : NW U) : va_Nw (.methodLinkNest RX4 42 yX5_tryAdvance "SparePool") U := h.2 (RX4, 42, yX5_tryAdvance) (List.mem_of_getElem? (i := 99) rfl)
theorem nw_X4_45 {U : State} (h : NW U) : va_Nw (.methodLinkNest RX4 45 yX5_tryDeliver "SparePool") U := h.2 (RX4, 45, yX5_tryDeliver) (List.mem_of_getElem? (i := 100) rfl)
theorem nw_X4_48 {U : State} (h : NW U) : va_Nw (.methodLinkNest RX4 48 yX5_tryTake "SparePool") U := h.2 (RX4, 48, yX5_tryTake) (List.mem_of_getElem? (i := 101) rfl)
theorem nw_X4_51 {U : State} (h : NW U) : va_Nw (.methodLinkNest RX4 51 yX5_tryBuy "SparePool") U := h.2 (RX4, 51, yX5_tryBuy) (List.mem_of_getElem? (i := 102) rfl)
theorem nw_X4_54 {U : State} (h : NW U) : va_Nw (.methodLinkNest RX4 54 yX5_trySettle "SparePool") U := h.2 (RX4, 54, yX5_trySettle) (List.mem_of_getElem? (i := 103) rfl)
theorem nw_X4_58 {U : State} (h : NW U) : va_Nw (.methodLinkNest RX4 58 yX5_tryDays "SparePool") U := h.2 (RX4, 58, yX5_tryDays) (List.mem_of_getElem? (i := 104) rfl)
abbrev tyL (cy : Nat → ClassId) : List (ClassId × FieldType) := [(cy 0, .int), (cy 1, .boolean), (cy 2, .object RX5), (cy 3, .byte)]
/-- what every method is given beside its world: the classes as the tables have them, the nest mates' words -/
def GK (D : va_G) (cy : Nat → ClassId) (U : State) : Prop := va_K D vwCl (tyL cy) U ∧ NW U
theorem GK.warm {D : va_G} {cy : Nat → ClassId} {s U : State} (hW : s.WarmedH U.vm) (h : GK D cy s) : GK D cy U := ⟨va_K.moved hW.alike h.1, h.2.warm hW⟩
theorem GK.call {D : va_G} {cy : Nat → ClassId} {U : State} {g : JFrame} {mk : MethodId} {a : Array Value} (h : GK D cy U) : GK D cy (U.calling g mk a) := ⟨va_K.moved (u := U) (U := U.calling g mk a) (Vm.Alike.refl U.vm) h.1, h.2.same rfl⟩
/-- a method that only looks: its answer is v, the heap stays -/
def RO (l : Launch) (D : va_G) (cy : Nat → ClassId) (y : MethodName) (ws : List Cond) (rm : Room) (w : va_W) (As : List Value) (v : Int32) : Prop :=
  Met l y ws rm (va_Pc As (fun U => va_P D vwCl w U.heap ∧ GK D cy U)) (vp_Si (fun r => r = v)) 0 0 (fun _ => False)
def ROl (l : Launch) (D : va_G) (cy : Nat → ClassId) (y : MethodName) (ws : List Cond) (rm : Room) (w : va_W) (As : List Value) (v : Int64) : Prop :=
  Met l y ws rm (va_Pc As (fun U => va_P D vwCl w U.heap ∧ GK D cy U)) (vp_Sl (fun r => r = v)) 0 0 (fun _ => False)
/-- a method that changes its world w to w', at the same addresses, and makes nothing -/
def MU (l : Launch) (D : va_G) (cy : Nat → ClassId) (y : MethodName) (ws : List Cond) (rm : Room) (w w' : va_W) (As : List Value) (v : Int32) : Prop := ∀ sz : Nat,
  Met l y ws rm (va_Pc As (fun U => U.heap.size = sz ∧ va_P D vwCl w U.heap ∧ va_D (fun _ => True) w ∧ GK D cy U)) (va_Qi (fun r (_ : Unit) => r = v) (fun _ t => va_P D vwCl w' t.heap) (va_A w sz)) 0 0 (va_A w sz)
def MV (l : Launch) (D : va_G) (cy : Nat → ClassId) (y : MethodName) (ws : List Cond) (rm : Room) (w w' : va_W) (As : List Value) : Prop := ∀ sz : Nat,
  Met l y ws rm (va_Pc As (fun U => U.heap.size = sz ∧ va_P D vwCl w U.heap ∧ va_D (fun _ => True) w ∧ GK D cy U)) (va_Qv (fun (_ : Unit) => True) (fun _ t => va_P D vwCl w' t.heap) (va_A w sz)) 0 0 (va_A w sz)
section BODY
variable {l : Launch} {D : va_G} {cy : Nat → ClassId} {y : MethodName} {ws ws' : List Cond} {rm : Room} {w w' : va_W} {As : List Value} {v : Int32} {vl : Int64} {cc : ByteArray} {maxL : Nat} {ret : Option FieldType}
theorem RO.body (hy : plainName y.cls = true) (hw : ws = Cond.code y cc maxL ret :: ws') (hlen : (lg_sl As).length ≤ maxL)
    (k : ∀ p e s m below meth c, p.tables.exec = Jvm.exec → c.code = cc → c.maxLocals = maxL → meth.sig.returnType = ret → (∀ z ∈ ws, z.before As.toArray s = true) → s.vm.findClass y.cls = some m.cls → meth.locks = false → va_P D vwCl w s.heap → GK D cy s → ∀ ls : Array Slot, lv_has ls maxL (lv_args 0 As) →
      W p l e rm s m As.toArray below meth c s.heap [] 0 0 (MQ below (vp_Si (fun r => r = v)) As.toArray s 0 0 (fun _ => False)) (F0 m 0 ls [])) : RO l D cy y ws rm w As v := by
  refine Met.ofW (cc := cc) (maxL := maxL) (ret := ret) hy hw ?_
  intro p e s m args below meth c s₁ B hml hv
  obtain ⟨rfl, hP, hG⟩ := hv
  have hl := lv_entry As (n := maxL) hlen
  rw [lg_entry_eq]
  exact k p e s m below meth c B.exec B.bytes hml B.returns (atoms_spec (ws := ws) B.pre) (findClass_of_methodNamed B.named) B.notSynchronized hP hG _ hl
theorem ROl.body (hy : plainName y.cls = true) (hw : ws = Cond.code y cc maxL ret :: ws') (hlen : (lg_sl As).length ≤ maxL)
    (k : ∀ p e s m below meth c, p.tables.exec = Jvm.exec → c.code = cc → c.maxLocals = maxL → meth.sig.returnType = ret → (∀ z ∈ ws, z.before As.toArray s = true) → s.vm.findClass y.cls = some m.cls → meth.locks = false → va_P D vwCl w s.heap → GK D cy s → ∀ ls : Array Slot, lv_has ls maxL (lv_args 0 As) →
      W p l e rm s m As.toArray below meth c s.heap [] 0 0 (MQ below (vp_Sl (fun r => r = vl)) As.toArray s 0 0 (fun _ => False)) (F0 m 0 ls [])) : ROl l D cy y ws rm w As vl := by
  refine Met.ofW (cc := cc) (maxL := maxL) (ret := ret) hy hw ?_
  intro p e s m args below meth c s₁ B hml hv
  obtain ⟨rfl, hP, hG⟩ := hv
  have hl := lv_entry As (n := maxL) hlen
  rw [lg_entry_eq]
  exact k p e s m below meth c B.exec B.bytes hml B.returns (atoms_spec (ws := ws) B.pre) (findClass_of_methodNamed B.named) B.notSynchronized hP hG _ hl
theorem MU.body (hy : plainName y.cls = true) (hw : ws = Cond.code y cc maxL ret :: ws') (hlen : (lg_sl As).length ≤ maxL)
    (k : ∀ p e s m below meth c, p.tables.exec = Jvm.exec → c.code = cc → c.maxLocals = maxL → meth.sig.returnType = ret → (∀ z ∈ ws, z.before As.toArray s = true) → s.vm.findClass y.cls = some m.cls → meth.locks = false → va_P D vwCl w s.heap → GK D cy s → ∀ ls : Array Slot, lv_has ls maxL (lv_args 0 As) →
      ∀ A : Nat → Prop, va_D A w → (∀ q, s.heap.size ≤ q → A q) → va_S A s.heap s.heap [] →
      W p l e rm s m As.toArray below meth c s.heap [] 0 0 (MQ below (va_Qi (fun r (_ : Unit) => r = v) (fun _ t => va_P D vwCl w' t.heap) A) As.toArray s 0 0 A) (F0 m 0 ls [])) : MU l D cy y ws rm w w' As v := by
  intro sz
  refine Met.ofW (cc := cc) (maxL := maxL) (ret := ret) hy hw ?_
  intro p e s m args below meth c s₁ B hml hv
  obtain ⟨rfl, hsz, hP, hD, hG⟩ := hv
  subst hsz
  have hl := lv_entry As (n := maxL) hlen
  rw [lg_entry_eq]
  exact k p e s m below meth c B.exec B.bytes hml B.returns (atoms_spec (ws := ws) B.pre) (findClass_of_methodNamed B.named) B.notSynchronized hP hG _ hl _ (hD.self (sz := s.heap.size)) (fun q h => Or.inr h) va_S.rf
theorem MV.body (hy : plainName y.cls = true) (hw : ws = Cond.code y cc maxL ret :: ws') (hlen : (lg_sl As).length ≤ maxL)
    (k : ∀ p e s m below meth c, p.tables.exec = Jvm.exec → c.code = cc → c.maxLocals = maxL → meth.sig.returnType = ret → (∀ z ∈ ws, z.before As.toArray s = true) → s.vm.findClass y.cls = some m.cls → meth.locks = false → va_P D vwCl w s.heap → GK D cy s → ∀ ls : Array Slot, lv_has ls maxL (lv_args 0 As) →
      ∀ A : Nat → Prop, va_D A w → (∀ q, s.heap.size ≤ q → A q) → va_S A s.heap s.heap [] →
      W p l e rm s m As.toArray below meth c s.heap [] 0 0 (MQ below (va_Qv (fun (_ : Unit) => True) (fun _ t => va_P D vwCl w' t.heap) A) As.toArray s 0 0 A) (F0 m 0 ls [])) : MV l D cy y ws rm w w' As := by
  intro sz
  refine Met.ofW (cc := cc) (maxL := maxL) (ret := ret) hy hw ?_
  intro p e s m args below meth c s₁ B hml hv
  obtain ⟨rfl, hsz, hP, hD, hG⟩ := hv
  subst hsz
  have hl := lv_entry As (n := maxL) hlen
  rw [lg_entry_eq]
  exact k p e s m below meth c B.exec B.bytes hml B.returns (atoms_spec (ws := ws) B.pre) (findClass_of_methodNamed B.named) B.notSynchronized hP hG _ hl _ (hD.self (sz := s.heap.size)) (fun q h => Or.inr h) va_S.rf
end BODY
section GO
variable {p : Program} {l : Launch} {e : Env} {R : Room} {s : State} {m : MethodId} {args : Array Value} {below : List Frame} {meth : Method} {c : Code} {H : Heap} {locs : List Loc} {cells slots : Nat} {Q : State → Prop}
variable {pc : Nat} {ls : Array Slot} {rest st0 : List Value} {a : Array Value} {D : va_G} {cy : Nat → ClassId}
theorem ro_go {v : Int32} (hr : va_Run p l e R s m args below meth c H locs cells slots 0 0 (F0 m pc ls st0) rest (vp_Si (fun r => r = v) a) (fun _ => False))
    (kk : W p l e R s m args below meth c H locs cells slots Q (F0 m (pc + 3) ls (.int v :: rest))) : W p l e R s m args below meth c H locs cells slots Q (F0 m pc ls st0) := by
  intro T hT X
  obtain ⟨w, st₀, t, T', L, h0, X', hL, e1, -, ⟨r, hv, hp, hh⟩, st⟩ := hr T hT X
  cases hv
  subst hp
  obtain ⟨t2, a1, b1⟩ := kk T' (by rw [e1, hh, h0]) (Stand.forget X' (fun q h => (hL q h).elim))
  exact ⟨t2, st t2 a1, b1⟩
theorem ro_gol {v : Int64} (hr : va_Run p l e R s m args below meth c H locs cells slots 0 0 (F0 m pc ls st0) rest (vp_Sl (fun r => r = v) a) (fun _ => False))
    (kk : W p l e R s m args below meth c H locs cells slots Q (F0 m (pc + 3) ls (.long v :: rest))) : W p l e R s m args below meth c H locs cells slots Q (F0 m pc ls st0) := by
  intro T hT X
  obtain ⟨w, st₀, t, T', L, h0, X', hL, e1, -, ⟨r, hv, hp, hh⟩, st⟩ := hr T hT X
  cases hv
  subst hp
  obtain ⟨t2, a1, b1⟩ := kk T' (by rw [e1, hh, h0]) (Stand.forget X' (fun q h => (hL q h).elim))
  exact ⟨t2, st t2 a1, b1⟩
/-- a world with some of its cells changed, at the same addresses -/
def va_rep : List Nat → va_W → va_W → va_W
  | [], _, ws => ws
  | _ :: _, [], ws => ws
  | i :: is, c :: cs, ws => va_rep is cs (ws.set i c)
theorem va_rep_at : ∀ (is : List Nat) (ws cs : va_W) (k : Nat) (q : Nat × va_E), (va_rep is cs ws)[k]? = some q → (∃ j : Nat, is[j]? = some k ∧ cs[j]? = some q) ∨ ((k ∉ is ∨ is.length ≠ cs.length) ∧ ws[k]? = some q) := by
  intro is
  induction is with
  | nil => intro ws cs k q h; exact Or.inr ⟨Or.inl (List.not_mem_nil), h⟩
  | cons i is ih =>
    intro ws cs k q h
    cases cs with
    | nil => exact Or.inr ⟨Or.inr (by simp), h⟩
    | cons c cs =>
      rcases ih (ws.set i c) cs k q h with ⟨j, h1, h2⟩ | ⟨h1, h2⟩
      · exact Or.inl ⟨j + 1, h1, h2⟩
      · by_cases hk : k = i
        · subst hk
          have hl : k < (ws.set k c).length := (List.getElem?_eq_some_iff.mp h2).1
          rw [List.length_set] at hl
          rw [List.getElem?_set_self hl] at h2
          exact Or.inl ⟨0, rfl, h2⟩
        · rw [List.getElem?_set_ne (Ne.symm hk)] at h2
          refine Or.inr ⟨?_, h2⟩
          rcases h1 with h1 | h1
          · exact Or.inl (fun z => (List.mem_cons.mp z).elim hk h1)
          · exact Or.inr (by simpa using h1)
theorem va_rep_join {A0 : Nat → Prop} {cl : List vw_C} {ws wc w' : va_W} {H1 : Heap} (hP : va_P D cl ws H) (hD : va_D A0 ws) (is : List Nat) (hC : is.map (fun i => ws[i]?) = wc.map some) (ha : w'.map Prod.fst = wc.map Prod.fst)
    (hk : ∀ q : Nat, q < H.size → ¬ va_A wc H.size q → H1[q]? = H[q]?) (hP1 : va_P D cl w' H1) : va_P D cl (va_rep is w' ws) H1 ∧ va_D A0 (va_rep is w' ws) := by
  have hlen : is.length = w'.length := by
    have h1 := congrArg List.length hC
    have h2 := congrArg List.length ha
    simp only [List.length_map] at h1 h2
    omega
  have atC : ∀ (k : Nat) (q : Nat × va_E), wc[k]? = some q → ∃ i, is[k]? = some i ∧ ws[i]? = some q := by
    intro k q hq
    have h1 : (is.map (fun i => ws[i]?))[k]? = some (some q) := by rw [hC, List.getElem?_map, hq]; rfl
    rw [List.getElem?_map] at h1
    cases hi : is[k]? with
    | none => rw [hi] at h1; cases h1
    | some i => rw [hi] at h1; exact ⟨i, rfl, Option.some.inj h1⟩
  have old : ∀ (j k : Nat) (q : Nat × va_E), is[j]? = some k → w'[j]? = some q → ∃ q0, ws[k]? = some q0 ∧ q0.1 = q.1 := by
    intro j k q h1 h2
    have h3 : (w'.map Prod.fst)[j]? = some q.1 := by rw [List.getElem?_map, h2]; rfl
    rw [ha, List.getElem?_map] at h3
    cases hw : wc[j]? with
    | none => rw [hw] at h3; cases h3
    | some q0 =>
      rw [hw] at h3
      obtain ⟨i, h4, h5⟩ := atC j q0 hw
      rw [h1] at h4
      cases h4
      exact ⟨q0, h5, Option.some.inj h3⟩
  refine ⟨fun k q hq => ?_, fun i j x z hx hz hxz => ?_, fun k q hq => ?_⟩
  · rcases va_rep_at is ws w' k q hq with ⟨j, h1, h2⟩ | ⟨h1, h2⟩
    · exact hP1 j q h2
    · rcases h1 with h1 | h1
      · have hl := (hP k q h2).lt
        refine (hP k q h2).kept (hk q.1 hl (fun h => ?_))
        rcases h with ⟨k2, e2, h⟩ | h
        · obtain ⟨i, h3, h4⟩ := atC k2 (q.1, e2) h
          have := hD.1 k i q (q.1, e2) h2 h4 rfl
          subst this
          exact h1 (List.mem_of_getElem? h3)
        · omega
      · exact absurd hlen h1
  · have key : ∀ (k : Nat) (q : Nat × va_E), (va_rep is w' ws)[k]? = some q → ∃ q0, ws[k]? = some q0 ∧ q0.1 = q.1 := by
      intro k q hq
      rcases va_rep_at is ws w' k q hq with ⟨j, h1, h2⟩ | ⟨h1, h2⟩
      · exact old j k q h1 h2
      · exact ⟨q, h2, rfl⟩
    obtain ⟨x0, h1, h2⟩ := key i x hx
    obtain ⟨z0, h3, h4⟩ := key j z hz
    exact hD.1 i j x0 z0 h1 h3 (h2.trans (hxz.trans h4.symm))
  · rcases va_rep_at is ws w' k q hq with ⟨j, h1, h2⟩ | ⟨h1, h2⟩
    · obtain ⟨q0, h3, h4⟩ := old j k q h1 h2
      rw [← h4]
      exact hD.2 k q0 h3
    · exact hD.2 k q h2
theorem mu_goi {v : Int32} {A0 : Nat → Prop} {cl : List vw_C} {H0 : Heap} {ws wc w' : va_W} (hr : va_Run p l e R s m args below meth c H locs cells slots 0 0 (F0 m pc ls st0) rest (va_Qi (fun r (_ : Unit) => r = v) (fun _ t => va_P D cl w' t.heap) (va_A wc H.size) a) (va_A wc H.size))
    (hP : va_P D cl ws H) (hD : va_D A0 ws) (hS : va_S A0 H0 H locs) (hA : ∀ q, H0.size ≤ q → A0 q) (is : List Nat) (hC : is.map (fun i => ws[i]?) = wc.map some) (ha : w'.map Prod.fst = wc.map Prod.fst)
    (kk : ∀ (H1 : Heap) (locs1 : List Loc), va_P D cl (va_rep is w' ws) H1 → va_D A0 (va_rep is w' ws) → va_S A0 H0 H1 locs1 → W p l e R s m args below meth c H1 locs1 cells slots Q (F0 m (pc + 3) ls (.int v :: rest))) : W p l e R s m args below meth c H locs cells slots Q (F0 m pc ls st0) := by
  have hF := va_free hD hS hA is hC
  refine va_calli hr hS (fun q _ h => hF q h) hF (fun r u t H1 locs1 ht hvm hw hB hz hk hS1 => ?_)
  subst hw
  have hB : va_P D cl w' t.heap := hB
  rw [ht] at hB
  obtain ⟨hP1, hD1⟩ := va_rep_join hP hD is hC ha hk hB
  exact kk H1 locs1 hP1 hD1 hS1
theorem mu_gov {A0 : Nat → Prop} {cl : List vw_C} {H0 : Heap} {ws wc w' : va_W} (hr : va_Run p l e R s m args below meth c H locs cells slots 0 0 (F0 m pc ls st0) rest (va_Qv (fun (_ : Unit) => True) (fun _ t => va_P D cl w' t.heap) (va_A wc H.size) a) (va_A wc H.size))
    (hP : va_P D cl ws H) (hD : va_D A0 ws) (hS : va_S A0 H0 H locs) (hA : ∀ q, H0.size ≤ q → A0 q) (is : List Nat) (hC : is.map (fun i => ws[i]?) = wc.map some) (ha : w'.map Prod.fst = wc.map Prod.fst)
    (kk : ∀ (H1 : Heap) (locs1 : List Loc), va_P D cl (va_rep is w' ws) H1 → va_D A0 (va_rep is w' ws) → va_S A0 H0 H1 locs1 → W p l e R s m args below meth c H1 locs1 cells slots Q (F0 m (pc + 3) ls rest)) : W p l e R s m args below meth c H locs cells slots Q (F0 m pc ls st0) := by
  have hF := va_free hD hS hA is hC
  refine va_callv hr hS (fun q _ h => hF q h) hF (fun u t H1 locs1 ht hvm hw hB hz hk hS1 => ?_)
  have hB : va_P D cl w' t.heap := hB
  rw [ht] at hB
  obtain ⟨hP1, hD1⟩ := va_rep_join hP hD is hC ha hk hB
  exact kk H1 locs1 hP1 hD1 hS1
end GO
section RET
variable {p : Program} {l : Launch} {e : Env} {R : Room} {s : State} {m : MethodId} {args : Array Value} {below : List Frame} {meth : Method} {c : Code} {H : Heap} {locs : List Loc} {cells slots : Nat}
variable {pc : Nat} {ls : Array Slot} {D : va_G} {cc : ByteArray}
theorem ro_iret {v x : Int32} (hx : p.tables.exec = Jvm.exec) (hb : c.code = cc) (hr : meth.sig.returnType = some .int) (hlocks : meth.locks = false) (hdg : decode cc pc = .ok (.ireturn, 1)) (hv : x = v) : W p l e R s m args below meth c s.heap [] 0 0 (MQ below (vp_Si (fun r => r = v)) args s 0 0 (fun _ => False)) (F0 m pc ls [.int x]) :=
  W.iret hx hb hr (fun t ht _ => ⟨x, rfl, hv, ht⟩) (fun _ h => by cases h) hdg hlocks
theorem ro_zret {v x : Int32} (hx : p.tables.exec = Jvm.exec) (hb : c.code = cc) (hr : meth.sig.returnType = some .boolean) (hlocks : meth.locks = false) (hn : narrow .boolean (.int x) = .int x) (hdg : decode cc pc = .ok (.ireturn, 1)) (hv : x = v) : W p l e R s m args below meth c s.heap [] 0 0 (MQ below (vp_Si (fun r => r = v)) args s 0 0 (fun _ => False)) (F0 m pc ls [.int x]) :=
  W.zret hx hb hr hn (fun t ht _ => ⟨x, rfl, hv, ht⟩) (fun _ h => by cases h) hdg hlocks
theorem ro_lret {v x : Int64} (hx : p.tables.exec = Jvm.exec) (hb : c.code = cc) (hr : meth.sig.returnType = some .long) (hlocks : meth.locks = false) (hdg : decode cc pc = .ok (.lreturn, 1)) (hv : x = v) : W p l e R s m args below meth c s.heap [] 0 0 (MQ below (vp_Sl (fun r => r = v)) args s 0 0 (fun _ => False)) (F0 m pc ls [.long x]) :=
  W.lret hx hb hr (fun t ht _ => ⟨x, rfl, hv, ht⟩) (fun _ h => by cases h) hdg hlocks
theorem mu_iret {A : Nat → Prop} {w w' : va_W} {v x : Int32} (hx : p.tables.exec = Jvm.exec) (hb : c.code = cc) (hr : meth.sig.returnType = some .int) (hlocks : meth.locks = false) (hP : va_P D vwCl w H) (hS : va_S A s.heap H locs) (hdg : decode cc pc = .ok (.ireturn, 1)) (hv : x = v) (hw : w = w') : W p l e R s m args below meth c H locs 0 0 (MQ below (va_Qi (fun r (_ : Unit) => r = v) (fun _ t => va_P D vwCl w' t.heap) A) args s 0 0 A) (F0 m pc ls [.int x]) := by
  subst hw
  exact W.iret hx hb hr (fun t ht _ => ⟨⟨x, (), rfl, hv, by show va_P D vwCl w t.heap; rw [ht]; exact hP⟩, hS.F ht⟩) hS.2.2 hdg hlocks
theorem mu_zret {A : Nat → Prop} {w w' : va_W} {v x : Int32} (hx : p.tables.exec = Jvm.exec) (hb : c.code = cc) (hr : meth.sig.returnType = some .boolean) (hlocks : meth.locks = false) (hn : narrow .boolean (.int x) = .int x) (hP : va_P D vwCl w H) (hS : va_S A s.heap H locs) (hdg : decode cc pc = .ok (.ireturn, 1)) (hv : x = v) (hw : w = w') : W p l e R s m args below meth c H locs 0 0 (MQ below (va_Qi (fun r (_ : Unit) => r = v) (fun _ t => va_P D vwCl w' t.heap) A) args s 0 0 A) (F0 m pc ls [.int x]) := by
  subst hw
  exact W.zret hx hb hr hn (fun t ht _ => ⟨⟨x, (), rfl, hv, by show va_P D vwCl w t.heap; rw [ht]; exact hP⟩, hS.F ht⟩) hS.2.2 hdg hlocks
theorem mu_vret {A : Nat → Prop} {w w' : va_W} (hx : p.tables.exec = Jvm.exec) (hb : c.code = cc) (hr : meth.sig.returnType = none) (hlocks : meth.locks = false) (hP : va_P D vwCl w H) (hS : va_S A s.heap H locs) (hdg : decode cc pc = .ok (.return_, 1)) (hw : w = w') : W p l e R s m args below meth c H locs 0 0 (MQ below (va_Qv (fun (_ : Unit) => True) (fun _ t => va_P D vwCl w' t.heap) A) args s 0 0 A) (F0 m pc ls []) := by
  subst hw
  exact W.vret hx hb hr (fun t ht _ => ⟨⟨(), rfl, trivial, by show va_P D vwCl w t.heap; rw [ht]; exact hP⟩, hS.F ht⟩) hS.2.2 hdg hlocks
end RET
theorem va_subP {D : va_G} {cl : List vw_C} {ws wc : va_W} {H : Heap} {is : List Nat} (hP : va_P D cl ws H) (hC : is.map (fun i => ws[i]?) = wc.map some) : va_P D cl wc H := by
  intro k q hq
  have h1 : (is.map (fun i => ws[i]?))[k]? = some (some q) := by rw [hC, List.getElem?_map, hq]; rfl
  rw [List.getElem?_map] at h1
  cases hi : is[k]? with
  | none => rw [hi] at h1; cases h1
  | some i => rw [hi] at h1; exact hP i q (Option.some.inj h1)
section CALLS
variable {p : Program} {l : Launch} {e : Env} {R : Room} {s : State} {m : MethodId} {args : Array Value} {below : List Frame} {meth : Method} {c : Code} {H : Heap} {locs : List Loc} {cells slots : Nat} {Q : State → Prop}
variable {pc : Nat} {ls : Array Slot} {rest : List Value} {D : va_G} {cy : Nat → ClassId} {cc : ByteArray} {nL : Nat}
variable {y : MethodName} {bytes : ByteArray} {maxL n index : Nat} {ret : Option FieldType} {wy ws' : List Cond} {rm : Room} {Ts : List Cond} {own : String} {b : Addr} {As : List Value} {st0 : List Value} {wc w' : va_W} {v : Int32} {vl : Int64}
theorem pre_ro (hG : GK D cy s) (hP : va_P D vwCl wc H) : PreS s H (va_Pc As (fun U => va_P D vwCl wc U.heap ∧ GK D cy U)) As :=
  ⟨fun _ _ _ _ h => ⟨h.1, h.2.1, h.2.2.call⟩, fun U hU hW => ⟨rfl, by rw [hU]; exact hP, hG.warm hW⟩⟩
theorem pre_mu (hG : GK D cy s) (hP : va_P D vwCl wc H) {A : Nat → Prop} (hD : va_D A wc) : PreS s H (va_Pc As (fun U => U.heap.size = H.size ∧ va_P D vwCl wc U.heap ∧ va_D (fun _ => True) wc ∧ GK D cy U)) As :=
  ⟨fun _ _ _ _ h => ⟨h.1, h.2.1, h.2.2.1, h.2.2.2.1, h.2.2.2.2.call⟩, fun U hU hW => ⟨rfl, by rw [hU], by rw [hU]; exact hP, hD.weaken (fun _ _ _ _ => trivial), hG.warm hW⟩⟩
theorem pre_v {Pc : Array Value → State → Prop} {q : vw_C} {ci : Nat} {fs : List Value} {C : String} (hG : GK D cy s) (hP : va_P D vwCl wc H) (hcl : vwCl[ci]? = some q) (hq : q.1 = C) (he : wc[0]? = some (b, .inr (ci, fs))) (h : PreS s H Pc (.ref b :: As)) : PreV s H C b Pc As := by
  subst hq
  exact ⟨h.1, va_recv hG.1 hP hcl he, h.2⟩
theorem roV {q : vw_C} {ci : Nat} {fs : List Value} {C : String} (hc : RO l D cy y wy rm wc (.ref b :: As) v) (S : CallFix p m c cc nL s args Ts own) (hT : GoodIn Ts (wsV own index C y wy)) (hw : wy = Cond.code y bytes maxL ret :: ws') (hd : y.cls = C ∧ y.cls ≠ "java/lang/invoke/MethodHandle" ∧ y.cls ≠ "java/lang/invoke/VarHandle" ∧ (parseMethodDescriptor y.desc).map (fun d => d.parameters.length) = some n)
    (hrm : rm.cells = 0 ∧ rm.slots = 0 ∧ rm.frames + 1 ≤ R.frames ∧ 8 + (maxL + 11) + rm.locals ≤ R.locals) (hG : GK D cy s) (hP : va_P D vwCl wc H) (hcl : vwCl[ci]? = some q) (hq : q.1 = C) (he : wc[0]? = some (b, .inr (ci, fs))) (hn : As.length = n) (hsize : ls.size = nL) (hst : st0 = As.reverse ++ .ref b :: rest) (hW : (rest.map fun v => v.category).sum ≤ 8) (hdg : decode cc pc = .ok (.invokevirtual index, 3)) (hf : cells ≤ R.cells ∧ slots ≤ R.slots)
    (kk : W p l e R s m args below meth c H locs cells slots Q (F0 m (pc + 3) ls (.int v :: rest))) : W p l e R s m args below meth c H locs cells slots Q (F0 m pc ls st0) :=
  ro_go (va_runV (As := As) (rest := rest) S hc (cwV n S.2.2.2.2 hT hw hrm.1 hrm.2.1 hd hrm.2.2) (pre_v hG hP hcl hq he (pre_ro hG hP)) rfl hn hsize hst (lv_room hW) hdg hf) kk
theorem roVN {q : vw_C} {ci : Nat} {fs : List Value} {C host : String} (hc : RO l D cy y wy rm wc (.ref b :: As) v) (S : CallFix p m c cc nL s args Ts own) (hT : GoodIn Ts wy) (hlk : va_Nw (.methodLinkNest own index y host) s) (hini : (Cond.initialized y.cls).before args s = true) (him : (Cond.instanceMethod y).before args s = true) (hse : (Cond.selects C y y).before args s = true) (hw : wy = Cond.code y bytes maxL ret :: ws') (hd : y.cls = C ∧ y.cls ≠ "java/lang/invoke/MethodHandle" ∧ y.cls ≠ "java/lang/invoke/VarHandle" ∧ (parseMethodDescriptor y.desc).map (fun d => d.parameters.length) = some n)
    (hrm : rm.cells = 0 ∧ rm.slots = 0 ∧ rm.frames + 1 ≤ R.frames ∧ 8 + (maxL + 11) + rm.locals ≤ R.locals) (hG : GK D cy s) (hP : va_P D vwCl wc H) (hcl : vwCl[ci]? = some q) (hq : q.1 = C) (he : wc[0]? = some (b, .inr (ci, fs))) (hn : As.length = n) (hsize : ls.size = nL) (hst : st0 = As.reverse ++ .ref b :: rest) (hW : (rest.map fun v => v.category).sum ≤ 8) (hdg : decode cc pc = .ok (.invokevirtual index, 3)) (hf : cells ≤ R.cells ∧ slots ≤ R.slots)
    (kk : W p l e R s m args below meth c H locs cells slots Q (F0 m (pc + 3) ls (.int v :: rest))) : W p l e R s m args below meth c H locs cells slots Q (F0 m pc ls st0) :=
  ro_go (va_runVN (As := As) (rest := rest) S hc ⟨va_cnB n S.2.2.2.2 hT hw hrm.1 hrm.2.1 hlk hini hd.2 hrm.2.2, him, hse⟩ (pre_v hG hP hcl hq he (pre_ro hG hP)) rfl hn hsize hst (lv_room hW) hdg hf) kk
theorem roS (hc : RO l D cy y wy rm wc As v) (S : CallFix p m c cc nL s args Ts own) (hT : GoodIn Ts (wsS own index y wy)) (hw : wy = Cond.code y bytes maxL ret :: ws') (hd : y.cls = own ∧ y.cls ≠ "java/lang/invoke/MethodHandle" ∧ y.cls ≠ "java/lang/invoke/VarHandle" ∧ (parseMethodDescriptor y.desc).map (fun d => d.parameters.length) = some n)
    (hrm : rm.cells = 0 ∧ rm.slots = 0 ∧ rm.frames + 1 ≤ R.frames ∧ 8 + (maxL + 11) + rm.locals ≤ R.locals) (hG : GK D cy s) (hP : va_P D vwCl wc H) (hn : As.length = n) (hsize : ls.size = nL) (hst : st0 = As.reverse ++ rest) (hW : (rest.map fun v => v.category).sum ≤ 8) (hdg : decode cc pc = .ok (.invokestatic index, 3)) (hf : cells ≤ R.cells ∧ slots ≤ R.slots)
    (kk : W p l e R s m args below meth c H locs cells slots Q (F0 m (pc + 3) ls (.int v :: rest))) : W p l e R s m args below meth c H locs cells slots Q (F0 m pc ls st0) :=
  ro_go (va_runS (As := As) (rest := rest) S hc (cwS n S.2.2.2.2 hT hw hrm.1 hrm.2.1 hd hrm.2.2) (pre_ro hG hP) rfl hn hsize hst (lv_room hW) hdg hf) kk
theorem roSN {host : String} (hc : RO l D cy y wy rm wc As v) (S : CallFix p m c cc nL s args Ts own) (hT : GoodIn Ts wy) (hlk : va_Nw (.methodLinkNest own index y host) s) (hini : (Cond.initialized y.cls).before args s = true) (hstt : (Cond.static y).before args s = true) (hw : wy = Cond.code y bytes maxL ret :: ws') (hd : y.cls ≠ "java/lang/invoke/MethodHandle" ∧ y.cls ≠ "java/lang/invoke/VarHandle" ∧ (parseMethodDescriptor y.desc).map (fun d => d.parameters.length) = some n)
    (hrm : rm.cells = 0 ∧ rm.slots = 0 ∧ rm.frames + 1 ≤ R.frames ∧ 8 + (maxL + 11) + rm.locals ≤ R.locals) (hG : GK D cy s) (hP : va_P D vwCl wc H) (hn : As.length = n) (hsize : ls.size = nL) (hst : st0 = As.reverse ++ rest) (hW : (rest.map fun v => v.category).sum ≤ 8) (hdg : decode cc pc = .ok (.invokestatic index, 3)) (hf : cells ≤ R.cells ∧ slots ≤ R.slots)
    (kk : W p l e R s m args below meth c H locs cells slots Q (F0 m (pc + 3) ls (.int v :: rest))) : W p l e R s m args below meth c H locs cells slots Q (F0 m pc ls st0) :=
  ro_go (va_runSN (As := As) (rest := rest) S hc ⟨va_cnB n S.2.2.2.2 hT hw hrm.1 hrm.2.1 hlk hini hd hrm.2.2, hstt, trivial⟩ (pre_ro hG hP) rfl hn hsize hst (lv_room hW) hdg hf) kk
theorem rlSN {host : String} (hc : ROl l D cy y wy rm wc As vl) (S : CallFix p m c cc nL s args Ts own) (hT : GoodIn Ts wy) (hlk : va_Nw (.methodLinkNest own index y host) s) (hini : (Cond.initialized y.cls).before args s = true) (hstt : (Cond.static y).before args s = true) (hw : wy = Cond.code y bytes maxL ret :: ws') (hd : y.cls ≠ "java/lang/invoke/MethodHandle" ∧ y.cls ≠ "java/lang/invoke/VarHandle" ∧ (parseMethodDescriptor y.desc).map (fun d => d.parameters.length) = some n)
    (hrm : rm.cells = 0 ∧ rm.slots = 0 ∧ rm.frames + 1 ≤ R.frames ∧ 8 + (maxL + 11) + rm.locals ≤ R.locals) (hG : GK D cy s) (hP : va_P D vwCl wc H) (hn : As.length = n) (hsize : ls.size = nL) (hst : st0 = As.reverse ++ rest) (hW : (rest.map fun v => v.category).sum ≤ 8) (hdg : decode cc pc = .ok (.invokestatic index, 3)) (hf : cells ≤ R.cells ∧ slots ≤ R.slots)
    (kk : W p l e R s m args below meth c H locs cells slots Q (F0 m (pc + 3) ls (.long vl :: rest))) : W p l e R s m args below meth c H locs cells slots Q (F0 m pc ls st0) :=
  ro_gol (va_runSN (As := As) (rest := rest) S hc ⟨va_cnB n S.2.2.2.2 hT hw hrm.1 hrm.2.1 hlk hini hd hrm.2.2, hstt, trivial⟩ (pre_ro hG hP) rfl hn hsize hst (lv_room hW) hdg hf) kk
variable {A0 : Nat → Prop} {H0 : Heap} {ws : va_W}
theorem muV {q : vw_C} {ci : Nat} {fs : List Value} {C : String} (hc : MU l D cy y wy rm wc w' (.ref b :: As) v) (S : CallFix p m c cc nL s args Ts own) (hT : GoodIn Ts (wsV own index C y wy)) (hw : wy = Cond.code y bytes maxL ret :: ws') (hd : y.cls = C ∧ y.cls ≠ "java/lang/invoke/MethodHandle" ∧ y.cls ≠ "java/lang/invoke/VarHandle" ∧ (parseMethodDescriptor y.desc).map (fun d => d.parameters.length) = some n)
    (hrm : rm.cells = 0 ∧ rm.slots = 0 ∧ rm.frames + 1 ≤ R.frames ∧ 8 + (maxL + 11) + rm.locals ≤ R.locals) (hG : GK D cy s) (hP : va_P D vwCl ws H) (hD : va_D A0 ws) (hS : va_S A0 H0 H locs) (hA : ∀ q, H0.size ≤ q → A0 q) (is : List Nat) (hni : va_nd is = true) (hC : is.map (fun i => ws[i]?) = wc.map some) (ha : w'.map Prod.fst = wc.map Prod.fst) (hcl : vwCl[ci]? = some q) (hq : q.1 = C) (he : wc[0]? = some (b, .inr (ci, fs))) (hn : As.length = n) (hsize : ls.size = nL) (hst : st0 = As.reverse ++ .ref b :: rest) (hW : (rest.map fun v => v.category).sum ≤ 8) (hdg : decode cc pc = .ok (.invokevirtual index, 3)) (hf : cells ≤ R.cells ∧ slots ≤ R.slots)
    (kk : ∀ (H1 : Heap) (locs1 : List Loc), va_P D vwCl (va_rep is w' ws) H1 → va_D A0 (va_rep is w' ws) → va_S A0 H0 H1 locs1 → W p l e R s m args below meth c H1 locs1 cells slots Q (F0 m (pc + 3) ls (.int v :: rest))) : W p l e R s m args below meth c H locs cells slots Q (F0 m pc ls st0) := by
  have hDc := hD.sub is hni hC
  have hPc : va_P D vwCl wc H := va_subP hP hC
  exact mu_goi (va_runV (As := As) (rest := rest) S (hc H.size) (cwV n S.2.2.2.2 hT hw hrm.1 hrm.2.1 hd hrm.2.2) (pre_v hG hPc hcl hq he (pre_mu hG hPc hDc)) rfl hn hsize hst (lv_room hW) hdg hf) hP hD hS hA is hC ha kk
theorem mvV {q : vw_C} {ci : Nat} {fs : List Value} {C : String} (hc : MV l D cy y wy rm wc w' (.ref b :: As)) (S : CallFix p m c cc nL s args Ts own) (hT : GoodIn Ts (wsV own index C y wy)) (hw : wy = Cond.code y bytes maxL ret :: ws') (hd : y.cls = C ∧ y.cls ≠ "java/lang/invoke/MethodHandle" ∧ y.cls ≠ "java/lang/invoke/VarHandle" ∧ (parseMethodDescriptor y.desc).map (fun d => d.parameters.length) = some n)
    (hrm : rm.cells = 0 ∧ rm.slots = 0 ∧ rm.frames + 1 ≤ R.frames ∧ 8 + (maxL + 11) + rm.locals ≤ R.locals) (hG : GK D cy s) (hP : va_P D vwCl ws H) (hD : va_D A0 ws) (hS : va_S A0 H0 H locs) (hA : ∀ q, H0.size ≤ q → A0 q) (is : List Nat) (hni : va_nd is = true) (hC : is.map (fun i => ws[i]?) = wc.map some) (ha : w'.map Prod.fst = wc.map Prod.fst) (hcl : vwCl[ci]? = some q) (hq : q.1 = C) (he : wc[0]? = some (b, .inr (ci, fs))) (hn : As.length = n) (hsize : ls.size = nL) (hst : st0 = As.reverse ++ .ref b :: rest) (hW : (rest.map fun v => v.category).sum ≤ 8) (hdg : decode cc pc = .ok (.invokevirtual index, 3)) (hf : cells ≤ R.cells ∧ slots ≤ R.slots)
    (kk : ∀ (H1 : Heap) (locs1 : List Loc), va_P D vwCl (va_rep is w' ws) H1 → va_D A0 (va_rep is w' ws) → va_S A0 H0 H1 locs1 → W p l e R s m args below meth c H1 locs1 cells slots Q (F0 m (pc + 3) ls rest)) : W p l e R s m args below meth c H locs cells slots Q (F0 m pc ls st0) := by
  have hDc := hD.sub is hni hC
  have hPc : va_P D vwCl wc H := va_subP hP hC
  exact mu_gov (va_runV (As := As) (rest := rest) S (hc H.size) (cwV n S.2.2.2.2 hT hw hrm.1 hrm.2.1 hd hrm.2.2) (pre_v hG hPc hcl hq he (pre_mu hG hPc hDc)) rfl hn hsize hst (lv_room hW) hdg hf) hP hD hS hA is hC ha kk
theorem muVN {q : vw_C} {ci : Nat} {fs : List Value} {C host : String} (hc : MU l D cy y wy rm wc w' (.ref b :: As) v) (S : CallFix p m c cc nL s args Ts own) (hT : GoodIn Ts wy) (hlk : va_Nw (.methodLinkNest own index y host) s) (hini : (Cond.initialized y.cls).before args s = true) (him : (Cond.instanceMethod y).before args s = true) (hse : (Cond.selects C y y).before args s = true) (hw : wy = Cond.code y bytes maxL ret :: ws') (hd : y.cls = C ∧ y.cls ≠ "java/lang/invoke/MethodHandle" ∧ y.cls ≠ "java/lang/invoke/VarHandle" ∧ (parseMethodDescriptor y.desc).map (fun d => d.parameters.length) = some n)
    (hrm : rm.cells = 0 ∧ rm.slots = 0 ∧ rm.frames + 1 ≤ R.frames ∧ 8 + (maxL + 11) + rm.locals ≤ R.locals) (hG : GK D cy s) (hP : va_P D vwCl ws H) (hD : va_D A0 ws) (hS : va_S A0 H0 H locs) (hA : ∀ q, H0.size ≤ q → A0 q) (is : List Nat) (hni : va_nd is = true) (hC : is.map (fun i => ws[i]?) = wc.map some) (ha : w'.map Prod.fst = wc.map Prod.fst) (hcl : vwCl[ci]? = some q) (hq : q.1 = C) (he : wc[0]? = some (b, .inr (ci, fs))) (hn : As.length = n) (hsize : ls.size = nL) (hst : st0 = As.reverse ++ .ref b :: rest) (hW : (rest.map fun v => v.category).sum ≤ 8) (hdg : decode cc pc = .ok (.invokevirtual index, 3)) (hf : cells ≤ R.cells ∧ slots ≤ R.slots)
    (kk : ∀ (H1 : Heap) (locs1 : List Loc), va_P D vwCl (va_rep is w' ws) H1 → va_D A0 (va_rep is w' ws) → va_S A0 H0 H1 locs1 → W p l e R s m args below meth c H1 locs1 cells slots Q (F0 m (pc + 3) ls (.int v :: rest))) : W p l e R s m args below meth c H locs cells slots Q (F0 m pc ls st0) := by
  have hDc := hD.sub is hni hC
  have hPc : va_P D vwCl wc H := va_subP hP hC
  exact mu_goi (va_runVN (As := As) (rest := rest) S (hc H.size) ⟨va_cnB n S.2.2.2.2 hT hw hrm.1 hrm.2.1 hlk hini hd.2 hrm.2.2, him, hse⟩ (pre_v hG hPc hcl hq he (pre_mu hG hPc hDc)) rfl hn hsize hst (lv_room hW) hdg hf) hP hD hS hA is hC ha kk
theorem mvVN {q : vw_C} {ci : Nat} {fs : List Value} {C host : String} (hc : MV l D cy y wy rm wc w' (.ref b :: As)) (S : CallFix p m c cc nL s args Ts own) (hT : GoodIn Ts wy) (hlk : va_Nw (.methodLinkNest own index y host) s) (hini : (Cond.initialized y.cls).before args s = true) (him : (Cond.instanceMethod y).before args s = true) (hse : (Cond.selects C y y).before args s = true) (hw : wy = Cond.code y bytes maxL ret :: ws') (hd : y.cls = C ∧ y.cls ≠ "java/lang/invoke/MethodHandle" ∧ y.cls ≠ "java/lang/invoke/VarHandle" ∧ (parseMethodDescriptor y.desc).map (fun d => d.parameters.length) = some n)
    (hrm : rm.cells = 0 ∧ rm.slots = 0 ∧ rm.frames + 1 ≤ R.frames ∧ 8 + (maxL + 11) + rm.locals ≤ R.locals) (hG : GK D cy s) (hP : va_P D vwCl ws H) (hD : va_D A0 ws) (hS : va_S A0 H0 H locs) (hA : ∀ q, H0.size ≤ q → A0 q) (is : List Nat) (hni : va_nd is = true) (hC : is.map (fun i => ws[i]?) = wc.map some) (ha : w'.map Prod.fst = wc.map Prod.fst) (hcl : vwCl[ci]? = some q) (hq : q.1 = C) (he : wc[0]? = some (b, .inr (ci, fs))) (hn : As.length = n) (hsize : ls.size = nL) (hst : st0 = As.reverse ++ .ref b :: rest) (hW : (rest.map fun v => v.category).sum ≤ 8) (hdg : decode cc pc = .ok (.invokevirtual index, 3)) (hf : cells ≤ R.cells ∧ slots ≤ R.slots)
    (kk : ∀ (H1 : Heap) (locs1 : List Loc), va_P D vwCl (va_rep is w' ws) H1 → va_D A0 (va_rep is w' ws) → va_S A0 H0 H1 locs1 → W p l e R s m args below meth c H1 locs1 cells slots Q (F0 m (pc + 3) ls rest)) : W p l e R s m args below meth c H locs cells slots Q (F0 m pc ls st0) := by
  have hDc := hD.sub is hni hC
  have hPc : va_P D vwCl wc H := va_subP hP hC
  exact mu_gov (va_runVN (As := As) (rest := rest) S (hc H.size) ⟨va_cnB n S.2.2.2.2 hT hw hrm.1 hrm.2.1 hlk hini hd.2 hrm.2.2, him, hse⟩ (pre_v hG hPc hcl hq he (pre_mu hG hPc hDc)) rfl hn hsize hst (lv_room hW) hdg hf) hP hD hS hA is hC ha kk
theorem muS (hc : MU l D cy y wy rm wc w' As v) (S : CallFix p m c cc nL s args Ts own) (hT : GoodIn Ts (wsS own index y wy)) (hw : wy = Cond.code y bytes maxL ret :: ws') (hd : y.cls = own ∧ y.cls ≠ "java/lang/invoke/MethodHandle" ∧ y.cls ≠ "java/lang/invoke/VarHandle" ∧ (parseMethodDescriptor y.desc).map (fun d => d.parameters.length) = some n)
    (hrm : rm.cells = 0 ∧ rm.slots = 0 ∧ rm.frames + 1 ≤ R.frames ∧ 8 + (maxL + 11) + rm.locals ≤ R.locals) (hG : GK D cy s) (hP : va_P D vwCl ws H) (hD : va_D A0 ws) (hS : va_S A0 H0 H locs) (hA : ∀ q, H0.size ≤ q → A0 q) (is : List Nat) (hni : va_nd is = true) (hC : is.map (fun i => ws[i]?) = wc.map some) (ha : w'.map Prod.fst = wc.map Prod.fst) (hn : As.length = n) (hsize : ls.size = nL) (hst : st0 = As.reverse ++ rest) (hW : (rest.map fun v => v.category).sum ≤ 8) (hdg : decode cc pc = .ok (.invokestatic index, 3)) (hf : cells ≤ R.cells ∧ slots ≤ R.slots)
    (kk : ∀ (H1 : Heap) (locs1 : List Loc), va_P D vwCl (va_rep is w' ws) H1 → va_D A0 (va_rep is w' ws) → va_S A0 H0 H1 locs1 → W p l e R s m args below meth c H1 locs1 cells slots Q (F0 m (pc + 3) ls (.int v :: rest))) : W p l e R s m args below meth c H locs cells slots Q (F0 m pc ls st0) := by
  have hDc := hD.sub is hni hC
  have hPc : va_P D vwCl wc H := va_subP hP hC
  exact mu_goi (va_runS (As := As) (rest := rest) S (hc H.size) (cwS n S.2.2.2.2 hT hw hrm.1 hrm.2.1 hd hrm.2.2) (pre_mu hG hPc hDc) rfl hn hsize hst (lv_room hW) hdg hf) hP hD hS hA is hC ha kk
theorem mvS (hc : MV l D cy y wy rm wc w' As) (S : CallFix p m c cc nL s args Ts own) (hT : GoodIn Ts (wsS own index y wy)) (hw : wy = Cond.code y bytes maxL ret :: ws') (hd : y.cls = own ∧ y.cls ≠ "java/lang/invoke/MethodHandle" ∧ y.cls ≠ "java/lang/invoke/VarHandle" ∧ (parseMethodDescriptor y.desc).map (fun d => d.parameters.length) = some n)
    (hrm : rm.cells = 0 ∧ rm.slots = 0 ∧ rm.frames + 1 ≤ R.frames ∧ 8 + (maxL + 11) + rm.locals ≤ R.locals) (hG : GK D cy s) (hP : va_P D vwCl ws H) (hD : va_D A0 ws) (hS : va_S A0 H0 H locs) (hA : ∀ q, H0.size ≤ q → A0 q) (is : List Nat) (hni : va_nd is = true) (hC : is.map (fun i => ws[i]?) = wc.map some) (ha : w'.map Prod.fst = wc.map Prod.fst) (hn : As.length = n) (hsize : ls.size = nL) (hst : st0 = As.reverse ++ rest) (hW : (rest.map fun v => v.category).sum ≤ 8) (hdg : decode cc pc = .ok (.invokestatic index, 3)) (hf : cells ≤ R.cells ∧ slots ≤ R.slots)
    (kk : ∀ (H1 : Heap) (locs1 : List Loc), va_P D vwCl (va_rep is w' ws) H1 → va_D A0 (va_rep is w' ws) → va_S A0 H0 H1 locs1 → W p l e R s m args below meth c H1 locs1 cells slots Q (F0 m (pc + 3) ls rest)) : W p l e R s m args below meth c H locs cells slots Q (F0 m pc ls st0) := by
  have hDc := hD.sub is hni hC
  have hPc : va_P D vwCl wc H := va_subP hP hC
  exact mu_gov (va_runS (As := As) (rest := rest) S (hc H.size) (cwS n S.2.2.2.2 hT hw hrm.1 hrm.2.1 hd hrm.2.2) (pre_mu hG hPc hDc) rfl hn hsize hst (lv_room hW) hdg hf) hP hD hS hA is hC ha kk
theorem muSN {host : String} (hc : MU l D cy y wy rm wc w' As v) (S : CallFix p m c cc nL s args Ts own) (hT : GoodIn Ts wy) (hlk : va_Nw (.methodLinkNest own index y host) s) (hini : (Cond.initialized y.cls).before args s = true) (hstt : (Cond.static y).before args s = true) (hw : wy = Cond.code y bytes maxL ret :: ws') (hd : y.cls ≠ "java/lang/invoke/MethodHandle" ∧ y.cls ≠ "java/lang/invoke/VarHandle" ∧ (parseMethodDescriptor y.desc).map (fun d => d.parameters.length) = some n)
    (hrm : rm.cells = 0 ∧ rm.slots = 0 ∧ rm.frames + 1 ≤ R.frames ∧ 8 + (maxL + 11) + rm.locals ≤ R.locals) (hG : GK D cy s) (hP : va_P D vwCl ws H) (hD : va_D A0 ws) (hS : va_S A0 H0 H locs) (hA : ∀ q, H0.size ≤ q → A0 q) (is : List Nat) (hni : va_nd is = true) (hC : is.map (fun i => ws[i]?) = wc.map some) (ha : w'.map Prod.fst = wc.map Prod.fst) (hn : As.length = n) (hsize : ls.size = nL) (hst : st0 = As.reverse ++ rest) (hW : (rest.map fun v => v.category).sum ≤ 8) (hdg : decode cc pc = .ok (.invokestatic index, 3)) (hf : cells ≤ R.cells ∧ slots ≤ R.slots)
    (kk : ∀ (H1 : Heap) (locs1 : List Loc), va_P D vwCl (va_rep is w' ws) H1 → va_D A0 (va_rep is w' ws) → va_S A0 H0 H1 locs1 → W p l e R s m args below meth c H1 locs1 cells slots Q (F0 m (pc + 3) ls (.int v :: rest))) : W p l e R s m args below meth c H locs cells slots Q (F0 m pc ls st0) := by
  have hDc := hD.sub is hni hC
  have hPc : va_P D vwCl wc H := va_subP hP hC
  exact mu_goi (va_runSN (As := As) (rest := rest) S (hc H.size) ⟨va_cnB n S.2.2.2.2 hT hw hrm.1 hrm.2.1 hlk hini hd hrm.2.2, hstt, trivial⟩ (pre_mu hG hPc hDc) rfl hn hsize hst (lv_room hW) hdg hf) hP hD hS hA is hC ha kk
end CALLS
