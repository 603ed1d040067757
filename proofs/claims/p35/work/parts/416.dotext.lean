theorem q_cpRN {cy : Nat → ClassId} {a b : Nat → Nat} {z1 z2 : StT} {X T A B S : va_W} : (w7 X T A B (wSt cy a z1) (wSt cy b z2) S).Perm (wStC cy a b z1 z2 ++ w7 X T A B [] [] S) := q_RN
theorem q_cpAN {cy : Nat → ClassId} {a b : Nat → Nat} {z1 z2 : StT} {X T B R S : va_W} : (w7 X T (wSt cy a z1) B R (wSt cy b z2) S).Perm (wStC cy a b z1 z2 ++ w7 X T [] B R [] S) := q_AN
theorem q_cpBN {cy : Nat → ClassId} {a b : Nat → Nat} {z1 z2 : StT} {X T A R S : va_W} : (w7 X T A (wSt cy a z1) R (wSt cy b z2) S).Perm (wStC cy a b z1 z2 ++ w7 X T A [] R [] S) := q_BN
theorem q_cpNA {cy : Nat → ClassId} {a b : Nat → Nat} {z1 z2 : StT} {X T B R S : va_W} : (w7 X T (wSt cy b z2) B R (wSt cy a z1) S).Perm (wStC cy a b z1 z2 ++ w7 X T [] B R [] S) := q_NA
theorem q_cpNB {cy : Nat → ClassId} {a b : Nat → Nat} {z1 z2 : StT} {X T A R S : va_W} : (w7 X T A (wSt cy b z2) R (wSt cy a z1) S).Perm (wStC cy a b z1 z2 ++ w7 X T A [] R [] S) := q_NB
def m_X8_doTextCommand (z : SpT) (x1 : Int32) : Int32 × SpT := if x1 = (100 : Int32) then ((m_X5_tryDays (pN z) (tF (pT z))).1, pN' z (m_X5_tryDays (pN z) (tF (pT z))).2) else if x1 = (108 : Int32) then ((m_X5_tryLend (pN z) (tF (pT z)) (tG (pT z)) (tH (pT z))).1, pN' z (m_X5_tryLend (pN z) (tF (pT z)) (tG (pT z)) (tH (pT z))).2) else if x1 = (110 : Int32) then ((m_X5_tryCome (pN z) (tF (pT z)) (tG (pT z)) (tH (pT z))).1, pN' z (m_X5_tryCome (pN z) (tF (pT z)) (tG (pT z)) (tH (pT z))).2) else if x1 = (114 : Int32) then ((m_X5_tryBring (pN z) (tF (pT z))).1, pN' z (m_X5_tryBring (pN z) (tF (pT z))).2) else if x1 = (116 : Int32) then ((m_X5_tryTake (pN z) (tF (pT z)) (tG (pT z)) (tH (pT z))).1, pN' z (m_X5_tryTake (pN z) (tF (pT z)) (tG (pT z)) (tH (pT z))).2) else if x1 = (120 : Int32) then ((m_X5_tryExchange (pN z) (tF (pT z)) (tG (pT z))).1, pN' z (m_X5_tryExchange (pN z) (tF (pT z)) (tG (pT z))).2) else ((-2 : Int32), z)
theorem hd_X8_doTextCommand : yX8_doTextCommand.cls = RX8 ∧ yX8_doTextCommand.cls ≠ "java/lang/invoke/MethodHandle" ∧ yX8_doTextCommand.cls ≠ "java/lang/invoke/VarHandle" ∧ (parseMethodDescriptor yX8_doTextCommand.desc).map (fun d => d.parameters.length) = some 1 := by decide +kernel
set_option maxHeartbeats 8000000 in
set_option maxRecDepth 20000 in
theorem c_X8_doTextCommand (l : Launch) (D : va_G) (cy : Nat → ClassId) (xa sa sb tr na : Nat → Nat) (ka : Nat → Nat → Nat) (z : SpT) (x1 : Int32) (hN : stOK (pN z)) : MU l D cy yX8_doTextCommand wsX8_doTextCommand ({ frames := 4, cells := 0, slots := 0, locals := 95 } : Room) (wSp cy xa sa sb tr na ka z) (wSp cy xa sa sb tr na ka (m_X8_doTextCommand z x1).2) [.ref (xa 0), .int x1] (m_X8_doTextCommand z x1).1 := by
  refine MU.body (by decide) rfl (Nat.le_of_ble_eq_true rfl) ?_
  intro p e s m below meth c hx hb hml hr hts hown hlocks hP hG ls hl A hD hA hS
  have hl : lv_has ls 5 [(0, .ref (xa 0)), (1, .int x1)] := hl
  have hCF : CallFix p m c cX8_doTextCommand 5 s ([.ref (xa 0), .int x1] : List Value).toArray wsX8_doTextCommand RX8 := ⟨hx, hb, hml, hown, hts⟩
  have in_X6 : ∀ w ∈ u_ws RX6 TX6 7, w ∈ wsX8_doTextCommand := fun _ h => List.mem_cons_of_mem _ (List.mem_append_left _ (List.mem_append_left _ (List.mem_append_left _ (List.mem_append_right _ h))))
  have in_X8 : ∀ w ∈ u_ws RX8 TX8 6, w ∈ wsX8_doTextCommand := fun _ h => List.mem_cons_of_mem _ (List.mem_append_left _ (List.mem_append_left _ (List.mem_append_left _ (List.mem_append_left _ (List.mem_append_right _ h)))))
  have k_0 := hts (Cond.fieldLink RX8 10 "SparePool" "text" "LSparePool$Text;") (List.mem_of_getElem? (i := 1) rfl)
  have k_1 := hts (Cond.fieldLink RX8 19 "SparePool" "now" "LSparePool$State;") (List.mem_of_getElem? (i := 2) rfl)
  have k_2 := hts (Cond.initialized RX5) (List.mem_of_getElem? (i := 4) rfl)
  have k_3 := hts (Cond.instanceMethod yX5_tryDays) (List.mem_of_getElem? (i := 115) rfl)
  have k_4 := hts (Cond.selects RX5 yX5_tryDays yX5_tryDays) (List.mem_of_getElem? (i := 116) rfl)
  have k_5 := hts (Cond.instanceMethod yX5_tryLend) (List.mem_of_getElem? (i := 31) rfl)
  have k_6 := hts (Cond.selects RX5 yX5_tryLend yX5_tryLend) (List.mem_of_getElem? (i := 32) rfl)
  have k_7 := hts (Cond.instanceMethod yX5_tryCome) (List.mem_of_getElem? (i := 3) rfl)
  have k_8 := hts (Cond.selects RX5 yX5_tryCome yX5_tryCome) (List.mem_of_getElem? (i := 5) rfl)
  have k_9 := hts (Cond.instanceMethod yX5_tryBring) (List.mem_of_getElem? (i := 40) rfl)
  have k_10 := hts (Cond.selects RX5 yX5_tryBring yX5_tryBring) (List.mem_of_getElem? (i := 41) rfl)
  have k_11 := hts (Cond.instanceMethod yX5_tryTake) (List.mem_of_getElem? (i := 91) rfl)
  have k_12 := hts (Cond.selects RX5 yX5_tryTake yX5_tryTake) (List.mem_of_getElem? (i := 92) rfl)
  have k_13 := hts (Cond.instanceMethod yX5_tryExchange) (List.mem_of_getElem? (i := 62) rfl)
  have k_14 := hts (Cond.selects RX5 yX5_tryExchange yX5_tryExchange) (List.mem_of_getElem? (i := 63) rfl)
  have hP : va_P D vwCl (wSp cy xa sa sb tr na ka z) s.heap := hP
  refine lv_aload_n hx hb dX8_doTextCommand_0 rfl (lv_at hl 0 rfl) ?_
  refine va_get (D := D) (ci := 6) (v := .ref (xa 3)) (C := RX8) (T := TX8) (N := 6) hx hb hts in_X8 hown hG.1 hP 0 g_Sp_0 rfl 0 (by decide) k_0 (fun _ h9 => h9) rfl dX8_doTextCommand_1 ?_
  refine va_getN (D := D) (ci := 4) (v := .int (tF (pT z))) (C := RX6) (T := TX6) (N := 7) hx hb hts in_X6 hown hG.1 hP 3 g_Sp_3 rfl 3 (by decide) (va_Nw.use rfl (nw_X8_77 hG.2)) (fun _ h9 => h9) rfl dX8_doTextCommand_4 ?_
  refine lv_istore_n (lv' := [(2, .int (tF (pT z))), (0, .ref (xa 0)), (1, .int x1)]) hx hb dX8_doTextCommand_7 rfl hl (by decide) rfl (fun ls hl => ?_)
  refine lv_aload_n hx hb dX8_doTextCommand_8 rfl (lv_at hl 1 rfl) ?_
  refine va_get (D := D) (ci := 6) (v := .ref (xa 3)) (C := RX8) (T := TX8) (N := 6) hx hb hts in_X8 hown hG.1 hP 0 g_Sp_0 rfl 0 (by decide) k_0 (fun _ h9 => h9) rfl dX8_doTextCommand_9 ?_
  refine va_getN (D := D) (ci := 4) (v := .int (tG (pT z))) (C := RX6) (T := TX6) (N := 7) hx hb hts in_X6 hown hG.1 hP 3 g_Sp_3 rfl 4 (by decide) (va_Nw.use rfl (nw_X8_80 hG.2)) (fun _ h9 => h9) rfl dX8_doTextCommand_12 ?_
  refine lv_istore_n (lv' := [(3, .int (tG (pT z))), (2, .int (tF (pT z))), (0, .ref (xa 0)), (1, .int x1)]) hx hb dX8_doTextCommand_15 rfl hl (by decide) rfl (fun ls hl => ?_)
  refine lv_aload_n hx hb dX8_doTextCommand_16 rfl (lv_at hl 2 rfl) ?_
  refine va_get (D := D) (ci := 6) (v := .ref (xa 3)) (C := RX8) (T := TX8) (N := 6) hx hb hts in_X8 hown hG.1 hP 0 g_Sp_0 rfl 0 (by decide) k_0 (fun _ h9 => h9) rfl dX8_doTextCommand_17 ?_
  refine va_getN (D := D) (ci := 4) (v := .int (tH (pT z))) (C := RX6) (T := TX6) (N := 7) hx hb hts in_X6 hown hG.1 hP 3 g_Sp_3 rfl 5 (by decide) (va_Nw.use rfl (nw_X8_83 hG.2)) (fun _ h9 => h9) rfl dX8_doTextCommand_20 ?_
  refine lv_istore (lv' := [(4, .int (tH (pT z))), (3, .int (tG (pT z))), (2, .int (tF (pT z))), (0, .ref (xa 0)), (1, .int x1)]) hx hb dX8_doTextCommand_23 hl (by decide) rfl (fun ls hl => ?_)
  refine lv_iload_n hx hb dX8_doTextCommand_25 rfl (lv_at hl 4 rfl) ?_
  by_cases c_1 : x1 = (100 : Int32)
  · refine lv_lookup (tgt := 139) hx hb dX8_doTextCommand_26 (by decide) (by rw [c_1]; first | done | rfl) (by decide) ?_
    refine lv_aload_n hx hb dX8_doTextCommand_139 rfl (lv_at hl 3 rfl) ?_
    refine va_get (D := D) (ci := 6) (v := .ref (na 0)) (C := RX8) (T := TX8) (N := 6) hx hb hts in_X8 hown hG.1 hP 0 g_Sp_0 rfl 1 (by decide) k_1 (fun _ h9 => h9) rfl dX8_doTextCommand_140 ?_
    refine lv_iload_n hx hb dX8_doTextCommand_143 rfl (lv_at hl 2 rfl) ?_
    refine mwVN (ci := 3) (A0 := A) (As := [.int (tF (pT z))]) (rest := []) (W1 := (wSp cy xa sa sb tr na ka z)) (W2 := (wSp cy xa sa sb tr na ka (pN' z (m_X5_tryDays (pN z) (tF (pT z))).2))) ((c_X5_tryDays l D cy na (pN z) (tF (pT z))).ctx q_N q_N) hCF gX8_doTextCommand_X5_tryDays_n103 (nw_X8_103 hG.2) k_2 k_3 k_4 rfl hd_X5_tryDays ⟨rfl, rfl, Nat.le_of_ble_eq_true rfl, Nat.le_of_ble_eq_true rfl⟩ hG hP hD hS hA h_Sp rfl rfl (List.mem_of_getElem? g_Sp_50) rfl hl.1 rfl (Nat.le_of_ble_eq_true rfl) dX8_doTextCommand_144 ⟨Nat.le_of_ble_eq_true rfl, Nat.le_of_ble_eq_true rfl⟩ (fun H locs hP hD hS => ?_)
    exact mu_iret hx hb hr hlocks hP hS dX8_doTextCommand_147 (by rw [m_X8_doTextCommand, if_pos c_1]) (by rw [m_X8_doTextCommand, if_pos c_1])
  by_cases c_2 : x1 = (108 : Int32)
  · refine lv_lookup (tgt := 96) hx hb dX8_doTextCommand_26 (by decide) (by rw [c_2]; first | done | rfl) (by decide) ?_
    refine lv_aload_n hx hb dX8_doTextCommand_96 rfl (lv_at hl 3 rfl) ?_
    refine va_get (D := D) (ci := 6) (v := .ref (na 0)) (C := RX8) (T := TX8) (N := 6) hx hb hts in_X8 hown hG.1 hP 0 g_Sp_0 rfl 1 (by decide) k_1 (fun _ h9 => h9) rfl dX8_doTextCommand_97 ?_
    refine lv_iload_n hx hb dX8_doTextCommand_100 rfl (lv_at hl 2 rfl) ?_
    refine lv_iload_n hx hb dX8_doTextCommand_101 rfl (lv_at hl 1 rfl) ?_
    refine lv_iload hx hb dX8_doTextCommand_102 (lv_at hl 0 rfl) ?_
    refine mwVN (ci := 3) (A0 := A) (As := [.int (tF (pT z)), .int (tG (pT z)), .int (tH (pT z))]) (rest := []) (W1 := (wSp cy xa sa sb tr na ka z)) (W2 := (wSp cy xa sa sb tr na ka (pN' z (m_X5_tryLend (pN z) (tF (pT z)) (tG (pT z)) (tH (pT z))).2))) ((c_X5_tryLend l D cy na (pN z) (tF (pT z)) (tG (pT z)) (tH (pT z)) hN).ctx q_N q_N) hCF gX8_doTextCommand_X5_tryLend_n90 (nw_X8_90 hG.2) k_2 k_5 k_6 rfl hd_X5_tryLend ⟨rfl, rfl, Nat.le_of_ble_eq_true rfl, Nat.le_of_ble_eq_true rfl⟩ hG hP hD hS hA h_Sp rfl rfl (List.mem_of_getElem? g_Sp_50) rfl hl.1 rfl (Nat.le_of_ble_eq_true rfl) dX8_doTextCommand_104 ⟨Nat.le_of_ble_eq_true rfl, Nat.le_of_ble_eq_true rfl⟩ (fun H locs hP hD hS => ?_)
    exact mu_iret hx hb hr hlocks hP hS dX8_doTextCommand_107 (by rw [m_X8_doTextCommand, if_neg c_1, if_pos c_2]) (by rw [m_X8_doTextCommand, if_neg c_1, if_pos c_2])
  by_cases c_3 : x1 = (110 : Int32)
  · refine lv_lookup (tgt := 84) hx hb dX8_doTextCommand_26 (by decide) (by rw [c_3]; first | done | rfl) (by decide) ?_
    refine lv_aload_n hx hb dX8_doTextCommand_84 rfl (lv_at hl 3 rfl) ?_
    refine va_get (D := D) (ci := 6) (v := .ref (na 0)) (C := RX8) (T := TX8) (N := 6) hx hb hts in_X8 hown hG.1 hP 0 g_Sp_0 rfl 1 (by decide) k_1 (fun _ h9 => h9) rfl dX8_doTextCommand_85 ?_
    refine lv_iload_n hx hb dX8_doTextCommand_88 rfl (lv_at hl 2 rfl) ?_
    refine lv_iload_n hx hb dX8_doTextCommand_89 rfl (lv_at hl 1 rfl) ?_
    refine lv_iload hx hb dX8_doTextCommand_90 (lv_at hl 0 rfl) ?_
    refine mwVN (ci := 3) (A0 := A) (As := [.int (tF (pT z)), .int (tG (pT z)), .int (tH (pT z))]) (rest := []) (W1 := (wSp cy xa sa sb tr na ka z)) (W2 := (wSp cy xa sa sb tr na ka (pN' z (m_X5_tryCome (pN z) (tF (pT z)) (tG (pT z)) (tH (pT z))).2))) ((c_X5_tryCome l D cy na (pN z) (tF (pT z)) (tG (pT z)) (tH (pT z)) hN).ctx q_N q_N) hCF gX8_doTextCommand_X5_tryCome_n86 (nw_X8_86 hG.2) k_2 k_7 k_8 rfl hd_X5_tryCome ⟨rfl, rfl, Nat.le_of_ble_eq_true rfl, Nat.le_of_ble_eq_true rfl⟩ hG hP hD hS hA h_Sp rfl rfl (List.mem_of_getElem? g_Sp_50) rfl hl.1 rfl (Nat.le_of_ble_eq_true rfl) dX8_doTextCommand_92 ⟨Nat.le_of_ble_eq_true rfl, Nat.le_of_ble_eq_true rfl⟩ (fun H locs hP hD hS => ?_)
    exact mu_iret hx hb hr hlocks hP hS dX8_doTextCommand_95 (by rw [m_X8_doTextCommand, if_neg c_1, if_neg c_2, if_pos c_3]) (by rw [m_X8_doTextCommand, if_neg c_1, if_neg c_2, if_pos c_3])
  by_cases c_4 : x1 = (114 : Int32)
  · refine lv_lookup (tgt := 108) hx hb dX8_doTextCommand_26 (by decide) (by rw [c_4]; first | done | rfl) (by decide) ?_
    refine lv_aload_n hx hb dX8_doTextCommand_108 rfl (lv_at hl 3 rfl) ?_
    refine va_get (D := D) (ci := 6) (v := .ref (na 0)) (C := RX8) (T := TX8) (N := 6) hx hb hts in_X8 hown hG.1 hP 0 g_Sp_0 rfl 1 (by decide) k_1 (fun _ h9 => h9) rfl dX8_doTextCommand_109 ?_
    refine lv_iload_n hx hb dX8_doTextCommand_112 rfl (lv_at hl 2 rfl) ?_
    refine mwVN (ci := 3) (A0 := A) (As := [.int (tF (pT z))]) (rest := []) (W1 := (wSp cy xa sa sb tr na ka z)) (W2 := (wSp cy xa sa sb tr na ka (pN' z (m_X5_tryBring (pN z) (tF (pT z))).2))) ((c_X5_tryBring l D cy na (pN z) (tF (pT z)) hN).ctx q_N q_N) hCF gX8_doTextCommand_X5_tryBring_n93 (nw_X8_93 hG.2) k_2 k_9 k_10 rfl hd_X5_tryBring ⟨rfl, rfl, Nat.le_of_ble_eq_true rfl, Nat.le_of_ble_eq_true rfl⟩ hG hP hD hS hA h_Sp rfl rfl (List.mem_of_getElem? g_Sp_50) rfl hl.1 rfl (Nat.le_of_ble_eq_true rfl) dX8_doTextCommand_113 ⟨Nat.le_of_ble_eq_true rfl, Nat.le_of_ble_eq_true rfl⟩ (fun H locs hP hD hS => ?_)
    exact mu_iret hx hb hr hlocks hP hS dX8_doTextCommand_116 (by rw [m_X8_doTextCommand, if_neg c_1, if_neg c_2, if_neg c_3, if_pos c_4]) (by rw [m_X8_doTextCommand, if_neg c_1, if_neg c_2, if_neg c_3, if_pos c_4])
  by_cases c_5 : x1 = (116 : Int32)
  · refine lv_lookup (tgt := 127) hx hb dX8_doTextCommand_26 (by decide) (by rw [c_5]; first | done | rfl) (by decide) ?_
    refine lv_aload_n hx hb dX8_doTextCommand_127 rfl (lv_at hl 3 rfl) ?_
    refine va_get (D := D) (ci := 6) (v := .ref (na 0)) (C := RX8) (T := TX8) (N := 6) hx hb hts in_X8 hown hG.1 hP 0 g_Sp_0 rfl 1 (by decide) k_1 (fun _ h9 => h9) rfl dX8_doTextCommand_128 ?_
    refine lv_iload_n hx hb dX8_doTextCommand_131 rfl (lv_at hl 2 rfl) ?_
    refine lv_iload_n hx hb dX8_doTextCommand_132 rfl (lv_at hl 1 rfl) ?_
    refine lv_iload hx hb dX8_doTextCommand_133 (lv_at hl 0 rfl) ?_
    refine mwVN (ci := 3) (A0 := A) (As := [.int (tF (pT z)), .int (tG (pT z)), .int (tH (pT z))]) (rest := []) (W1 := (wSp cy xa sa sb tr na ka z)) (W2 := (wSp cy xa sa sb tr na ka (pN' z (m_X5_tryTake (pN z) (tF (pT z)) (tG (pT z)) (tH (pT z))).2))) ((c_X5_tryTake l D cy na (pN z) (tF (pT z)) (tG (pT z)) (tH (pT z)) hN).ctx q_N q_N) hCF gX8_doTextCommand_X5_tryTake_n100 (nw_X8_100 hG.2) k_2 k_11 k_12 rfl hd_X5_tryTake ⟨rfl, rfl, Nat.le_of_ble_eq_true rfl, Nat.le_of_ble_eq_true rfl⟩ hG hP hD hS hA h_Sp rfl rfl (List.mem_of_getElem? g_Sp_50) rfl hl.1 rfl (Nat.le_of_ble_eq_true rfl) dX8_doTextCommand_135 ⟨Nat.le_of_ble_eq_true rfl, Nat.le_of_ble_eq_true rfl⟩ (fun H locs hP hD hS => ?_)
    exact mu_iret hx hb hr hlocks hP hS dX8_doTextCommand_138 (by rw [m_X8_doTextCommand, if_neg c_1, if_neg c_2, if_neg c_3, if_neg c_4, if_pos c_5]) (by rw [m_X8_doTextCommand, if_neg c_1, if_neg c_2, if_neg c_3, if_neg c_4, if_pos c_5])
  by_cases c_6 : x1 = (120 : Int32)
  · refine lv_lookup (tgt := 117) hx hb dX8_doTextCommand_26 (by decide) (by rw [c_6]; first | done | rfl) (by decide) ?_
    refine lv_aload_n hx hb dX8_doTextCommand_117 rfl (lv_at hl 3 rfl) ?_
    refine va_get (D := D) (ci := 6) (v := .ref (na 0)) (C := RX8) (T := TX8) (N := 6) hx hb hts in_X8 hown hG.1 hP 0 g_Sp_0 rfl 1 (by decide) k_1 (fun _ h9 => h9) rfl dX8_doTextCommand_118 ?_
    refine lv_iload_n hx hb dX8_doTextCommand_121 rfl (lv_at hl 2 rfl) ?_
    refine lv_iload_n hx hb dX8_doTextCommand_122 rfl (lv_at hl 1 rfl) ?_
    refine mwVN (ci := 3) (A0 := A) (As := [.int (tF (pT z)), .int (tG (pT z))]) (rest := []) (W1 := (wSp cy xa sa sb tr na ka z)) (W2 := (wSp cy xa sa sb tr na ka (pN' z (m_X5_tryExchange (pN z) (tF (pT z)) (tG (pT z))).2))) ((c_X5_tryExchange l D cy na (pN z) (tF (pT z)) (tG (pT z)) hN).ctx q_N q_N) hCF gX8_doTextCommand_X5_tryExchange_n96 (nw_X8_96 hG.2) k_2 k_13 k_14 rfl hd_X5_tryExchange ⟨rfl, rfl, Nat.le_of_ble_eq_true rfl, Nat.le_of_ble_eq_true rfl⟩ hG hP hD hS hA h_Sp rfl rfl (List.mem_of_getElem? g_Sp_50) rfl hl.1 rfl (Nat.le_of_ble_eq_true rfl) dX8_doTextCommand_123 ⟨Nat.le_of_ble_eq_true rfl, Nat.le_of_ble_eq_true rfl⟩ (fun H locs hP hD hS => ?_)
    exact mu_iret hx hb hr hlocks hP hS dX8_doTextCommand_126 (by rw [m_X8_doTextCommand, if_neg c_1, if_neg c_2, if_neg c_3, if_neg c_4, if_neg c_5, if_pos c_6]) (by rw [m_X8_doTextCommand, if_neg c_1, if_neg c_2, if_neg c_3, if_neg c_4, if_neg c_5, if_pos c_6])
  · refine lv_lookup (tgt := 148) hx hb dX8_doTextCommand_26 (by decide) ((lv_osw (k := 100) c_1 rfl).trans ((lv_osw (k := 108) c_2 rfl).trans ((lv_osw (k := 110) c_3 rfl).trans ((lv_osw (k := 114) c_4 rfl).trans ((lv_osw (k := 116) c_5 rfl).trans ((lv_osw (k := 120) c_6 rfl).trans (rfl))))))) (by first | rfl | decide) ?_
    refine lv_bipush (v := (-2 : Int32)) hx hb dX8_doTextCommand_148 (by decide) ?_
    exact mu_iret hx hb hr hlocks hP hS dX8_doTextCommand_150 (by rw [m_X8_doTextCommand, if_neg c_1, if_neg c_2, if_neg c_3, if_neg c_4, if_neg c_5, if_neg c_6]) (by rw [m_X8_doTextCommand, if_neg c_1, if_neg c_2, if_neg c_3, if_neg c_4, if_neg c_5, if_neg c_6])
theorem dc_keep (z : SpT) (c : Int32) : pT (m_X8_doTextCommand z c).2 = pT z := by
  unfold m_X8_doTextCommand
  repeat' split
  all_goals rfl
theorem dc_T {z : SpT} {c : Int32} (h : iv 0 120 (tL (pT z))) : iv 0 120 (tL (pT (m_X8_doTextCommand z c).2)) := by
  rw [dc_keep]; exact h
theorem dcN_ite {P : Prop} [Decidable P] {a b : Int32 × SpT} (ha : P → stOK (pN a.2)) (hb : ¬ P → stOK (pN b.2)) : stOK (pN (if P then a else b).2) := by
  by_cases h : P
  · rw [if_pos h]; exact ha h
  · rw [if_neg h]; exact hb h
theorem dc_N {z : SpT} {c : Int32} (h : stOK (pN z)) : stOK (pN (m_X8_doTextCommand z c).2) := by
  unfold m_X8_doTextCommand
  exact dcN_ite (fun c0 => (ok_tryDays h)) (fun c0 => dcN_ite (fun c1 => (ok_tryLend h)) (fun c1 => dcN_ite (fun c2 => (ok_tryCome h)) (fun c2 => dcN_ite (fun c3 => (ok_tryBring h)) (fun c3 => dcN_ite (fun c4 => (ok_tryTake h)) (fun c4 => dcN_ite (fun c5 => (ok_tryExchange h)) (fun c5 => h))))))
theorem dt_dec {r : SpT} {x c : Int32} {n : Nat} (c1 : ¬ tL (pT r) ≤ x) (c2 : x < (m_X6_readCommand (pT r) x).1) (hm : ((tL (pT r)).toInt - x.toInt).toNat < n + 1) : ((tL (pT (m_X8_doTextCommand (pT' r (m_X6_readCommand (pT r) x).2) c).2)).toInt - (m_X6_readCommand (pT r) x).1.toInt).toNat < n := by
  rw [dc_keep]
  exact fe_dec c1 c2 hm
def m_X8_doText_L4 : Nat → SpT → Int32 → Int32 → Int32 × SpT
  | 0, r, _, _ => (0, r)
  | nF + 1, r, lo, pa => if (tL (pT r)) ≤ pa then (lo, r) else if pa < (m_X6_readCommand (pT r) pa).1 then if (0 : Int32) ≤ (m_X8_doTextCommand (pT' r (m_X6_readCommand (pT r) pa).2) (tC (m_X6_readCommand (pT r) pa).2)).1 then m_X8_doText_L4 nF (m_X8_doTextCommand (pT' r (m_X6_readCommand (pT r) pa).2) (tC (m_X6_readCommand (pT r) pa).2)).2 lo (m_X6_readCommand (pT r) pa).1 else m_X8_doText_L4 nF (m_X8_doTextCommand (pT' r (m_X6_readCommand (pT r) pa).2) (tC (m_X6_readCommand (pT r) pa).2)).2 (lo + (1 : Int32)) (m_X6_readCommand (pT r) pa).1 else (lo, pT' r (m_X6_readCommand (pT r) pa).2)
def m_X8_doText (z : SpT) : Int32 × SpT := m_X8_doText_L4 1000 z (0 : Int32) (1 : Int32)
theorem hd_X8_doText : yX8_doText.cls = RX8 ∧ yX8_doText.cls ≠ "java/lang/invoke/MethodHandle" ∧ yX8_doText.cls ≠ "java/lang/invoke/VarHandle" ∧ (parseMethodDescriptor yX8_doText.desc).map (fun d => d.parameters.length) = some 0 := by decide +kernel
set_option maxHeartbeats 8000000 in
set_option maxRecDepth 20000 in
theorem c_X8_doText (l : Launch) (D : va_G) (cy : Nat → ClassId) (t : FxA) (xa sa sb tr na : Nat → Nat) (ka : Nat → Nat → Nat) (z : SpT) (hT : iv 0 120 (tL (pT z))) (hN : stOK (pN z)) : MUf l D cy t yX8_doText wsX8_doText ({ frames := 5, cells := 0, slots := 0, locals := 119 } : Room) (wSp cy xa sa sb tr na ka z) (wSp cy xa sa sb tr na ka (m_X8_doText z).2) [.ref (xa 0)] (m_X8_doText z).1 := by
  refine MUf.body (by decide) rfl (Nat.le_of_ble_eq_true rfl) ?_
  intro p e s m below meth c hx hb hml hr hts hown hlocks hP hG ls hl A hD hA hS hF
  have hl : lv_has ls 4 [(0, .ref (xa 0))] := hl
  have hCF : CallFix p m c cX8_doText 4 s ([.ref (xa 0)] : List Value).toArray wsX8_doText RX8 := ⟨hx, hb, hml, hown, hts⟩
  have in_X6 : ∀ w ∈ u_ws RX6 TX6 7, w ∈ wsX8_doText := fun _ h => List.mem_cons_of_mem _ (List.mem_append_left _ (List.mem_append_left _ (List.mem_append_left _ (List.mem_append_right _ h))))
  have in_X8 : ∀ w ∈ u_ws RX8 TX8 6, w ∈ wsX8_doText := fun _ h => List.mem_cons_of_mem _ (List.mem_append_left _ (List.mem_append_left _ (List.mem_append_left _ (List.mem_append_left _ (List.mem_append_right _ h)))))
  have k_0 := hts (Cond.fieldLink RX8 10 "SparePool" "text" "LSparePool$Text;") (List.mem_of_getElem? (i := 1) rfl)
  have k_1 := hts (Cond.initialized RX6) (List.mem_of_getElem? (i := 3) rfl)
  have k_2 := hts (Cond.instanceMethod yX6_readCommand) (List.mem_of_getElem? (i := 2) rfl)
  have k_3 := hts (Cond.selects RX6 yX6_readCommand yX6_readCommand) (List.mem_of_getElem? (i := 4) rfl)
  have hP : va_P D vwCl (wSp cy xa sa sb tr na ka z) s.heap := hP
  have L_4 : ∀ (nF : Nat) (r : SpT) (lo : Int32) (pa : Int32), iv 0 120 (tL (pT r)) → stOK (pN r) → ((tL (pT r)).toInt - pa.toInt).toNat < nF → m_X8_doText_L4 nF r lo pa = (m_X8_doText z) → ∀ (H : Heap) (locs : List Loc), va_P D vwCl (wSp cy xa sa sb tr na ka r) H → va_D A (wSp cy xa sa sb tr na ka r) → va_S A s.heap H locs → ∀ ls : Array Slot, lv_has ls 4 [(0, .ref (xa 0)), (1, .int lo), (2, .int pa)] → W p l e ({ frames := 5, cells := 0, slots := 0, locals := 119 } : Room) s m ([.ref (xa 0)] : List Value).toArray below meth c H locs 0 0 (MQ below (va_Qi (fun v_ (_ : Unit) => v_ = (m_X8_doText z).1) (fun _ t => va_P D vwCl (wSp cy xa sa sb tr na ka (m_X8_doText z).2) t.heap) A) ([.ref (xa 0)] : List Value).toArray s 0 0 A) (F0 m 4 ls []) := by
    intro nF
    induction nF with
    | zero => intro r lo pa hT hN hm; exact absurd hm (Nat.not_lt_zero _)
    | succ nF ih =>
      intro r lo pa hT hN hm hQ H locs hP hD hS ls hl
      refine lv_iload_n hx hb dX8_doText_4 rfl (lv_at hl 2 rfl) ?_
      refine lv_aload_n hx hb dX8_doText_5 rfl (lv_at hl 0 rfl) ?_
      refine va_get (D := D) (ci := 6) (v := .ref (xa 3)) (C := RX8) (T := TX8) (N := 6) hx hb hts in_X8 hown hG.1 hP 0 g_Sp_0 rfl 0 (by decide) k_0 (fun _ h9 => h9) rfl dX8_doText_6 ?_
      refine va_getN (D := D) (ci := 4) (v := .int (tL (pT r))) (C := RX6) (T := TX6) (N := 7) hx hb hts in_X6 hown hG.1 hP 3 g_Sp_3 rfl 1 (by decide) (va_Nw.use rfl (nw_X8_44 hG.2)) (fun _ h9 => h9) rfl dX8_doText_9 ?_
      refine lv_icmp_ge (tgt := 53) hx hb dX8_doText_12 (by decide) (fun c_1 => ?_) (fun c_1 => ?_)
      · skip
        refine lv_iload_n hx hb dX8_doText_53 rfl (lv_at hl 1 rfl) ?_
        exact mu_iret hx hb hr hlocks hP hS dX8_doText_54 (by rw [← hQ, m_X8_doText_L4, if_pos c_1]) (by rw [← hQ, m_X8_doText_L4, if_pos c_1])
      · skip
        refine lv_aload_n hx hb dX8_doText_15 rfl (lv_at hl 0 rfl) ?_
        refine va_get (D := D) (ci := 6) (v := .ref (xa 3)) (C := RX8) (T := TX8) (N := 6) hx hb hts in_X8 hown hG.1 hP 0 g_Sp_0 rfl 0 (by decide) k_0 (fun _ h9 => h9) rfl dX8_doText_16 ?_
        refine lv_iload_n hx hb dX8_doText_19 rfl (lv_at hl 2 rfl) ?_
        refine fwVN (ci := 4) (A0 := A) (As := [.int pa]) (rest := []) (W1 := (wSp cy xa sa sb tr na ka r)) (W2 := (wSp cy xa sa sb tr na ka (pT' r (m_X6_readCommand (pT r) pa).2))) ((c_X6_readCommand l D cy t (xa 3) (xa 4) (pT r) pa hT).ctx q_T q_T) hCF gX8_doText_X6_readCommand_n68 (nw_X8_68 hG.2) k_1 k_2 k_3 rfl hd_X6_readCommand ⟨rfl, rfl, Nat.le_of_ble_eq_true rfl, Nat.le_of_ble_eq_true rfl⟩ hG hF hP hD hS hA h_Sp rfl rfl (List.mem_of_getElem? g_Sp_3) rfl hl.1 rfl (Nat.le_of_ble_eq_true rfl) dX8_doText_20 ⟨Nat.le_of_ble_eq_true rfl, Nat.le_of_ble_eq_true rfl⟩ (fun H locs hP hD hS => ?_)
        refine lv_istore_n (lv' := [(3, .int (m_X6_readCommand (pT r) pa).1), (0, .ref (xa 0)), (1, .int lo), (2, .int pa)]) hx hb dX8_doText_23 rfl hl (by decide) rfl (fun ls hl => ?_)
        refine lv_iload_n hx hb dX8_doText_24 rfl (lv_at hl 0 rfl) ?_
        refine lv_iload_n hx hb dX8_doText_25 rfl (lv_at hl 3 rfl) ?_
        refine lv_icmp_gt (tgt := 31) hx hb dX8_doText_26 (by decide) (fun c_2 => ?_) (fun c_2 => ?_)
        · skip
          refine lv_aload_n hx hb dX8_doText_31 rfl (lv_at hl 1 rfl) ?_
          refine lv_aload_n hx hb dX8_doText_32 rfl (lv_at hl 1 rfl) ?_
          refine va_get (D := D) (ci := 6) (v := .ref (xa 3)) (C := RX8) (T := TX8) (N := 6) hx hb hts in_X8 hown hG.1 hP 0 g_Sp_0 rfl 0 (by decide) k_0 (fun _ h9 => h9) rfl dX8_doText_33 ?_
          refine va_getN (D := D) (ci := 4) (v := .int (tC (m_X6_readCommand (pT r) pa).2)) (C := RX6) (T := TX6) (N := 7) hx hb hts in_X6 hown hG.1 hP 3 g_Sp_3 rfl 2 (by decide) (va_Nw.use rfl (nw_X8_71 hG.2)) (fun _ h9 => h9) rfl dX8_doText_36 ?_
          refine mwV (ci := 6) (A0 := A) (As := [.int (tC (m_X6_readCommand (pT r) pa).2)]) (rest := []) (W1 := (wSp cy xa sa sb tr na ka (pT' r (m_X6_readCommand (pT r) pa).2))) (W2 := (wSp cy xa sa sb tr na ka (m_X8_doTextCommand (pT' r (m_X6_readCommand (pT r) pa).2) (tC (m_X6_readCommand (pT r) pa).2)).2)) (c_X8_doTextCommand l D cy xa sa sb tr na ka (pT' r (m_X6_readCommand (pT r) pa).2) (tC (m_X6_readCommand (pT r) pa).2) hN) hCF gX8_doText_X8_doTextCommand rfl hd_X8_doTextCommand ⟨rfl, rfl, Nat.le_of_ble_eq_true rfl, Nat.le_of_ble_eq_true rfl⟩ hG hP hD hS hA h_Sp rfl rfl (List.mem_of_getElem? g_Sp_0) rfl hl.1 rfl (Nat.le_of_ble_eq_true rfl) dX8_doText_39 ⟨Nat.le_of_ble_eq_true rfl, Nat.le_of_ble_eq_true rfl⟩ (fun H locs hP hD hS => ?_)
          refine lv_if_ge (tgt := 48) hx hb dX8_doText_42 (by decide) (fun c_3 => ?_) (fun c_3 => ?_)
          · skip
            refine lv_iload_n hx hb dX8_doText_48 rfl (lv_at hl 0 rfl) ?_
            refine lv_istore_n (lv' := [(2, .int (m_X6_readCommand (pT r) pa).1), (3, .int (m_X6_readCommand (pT r) pa).1), (0, .ref (xa 0)), (1, .int lo)]) hx hb dX8_doText_49 rfl hl (by decide) rfl (fun ls hl => ?_)
            refine lv_goto (tgt := 4) hx hb dX8_doText_50 (by decide) ?_
            exact ih  (m_X8_doTextCommand (pT' r (m_X6_readCommand (pT r) pa).2) (tC (m_X6_readCommand (pT r) pa).2)).2 lo (m_X6_readCommand (pT r) pa).1 (dc_T (rc_T hT)) (dc_N hN) (dt_dec c_1 c_2 hm) (by rw [← hQ, m_X8_doText_L4, if_neg c_1, if_pos c_2, if_pos c_3]) H locs hP hD hS ls (lv_sub hl [2, 3, 0] rfl)
          · skip
            refine lv_iinc (v := (lo + (1 : Int32))) (lv' := [(1, .int (lo + (1 : Int32))), (3, .int (m_X6_readCommand (pT r) pa).1), (0, .ref (xa 0)), (2, .int pa)]) hx hb dX8_doText_45 hl (k := 2) rfl rfl (by decide) rfl (fun ls hl => ?_)
            refine lv_iload_n hx hb dX8_doText_48 rfl (lv_at hl 1 rfl) ?_
            refine lv_istore_n (lv' := [(2, .int (m_X6_readCommand (pT r) pa).1), (1, .int (lo + (1 : Int32))), (3, .int (m_X6_readCommand (pT r) pa).1), (0, .ref (xa 0))]) hx hb dX8_doText_49 rfl hl (by decide) rfl (fun ls hl => ?_)
            refine lv_goto (tgt := 4) hx hb dX8_doText_50 (by decide) ?_
            exact ih  (m_X8_doTextCommand (pT' r (m_X6_readCommand (pT r) pa).2) (tC (m_X6_readCommand (pT r) pa).2)).2 (lo + (1 : Int32)) (m_X6_readCommand (pT r) pa).1 (dc_T (rc_T hT)) (dc_N hN) (dt_dec c_1 c_2 hm) (by rw [← hQ, m_X8_doText_L4, if_neg c_1, if_pos c_2, if_neg c_3]) H locs hP hD hS ls (lv_sub hl [3, 1, 0] rfl)
        · skip
          refine lv_iload_n hx hb dX8_doText_29 rfl (lv_at hl 2 rfl) ?_
          exact mu_iret hx hb hr hlocks hP hS dX8_doText_30 (by rw [← hQ, m_X8_doText_L4, if_neg c_1, if_neg c_2]) (by rw [← hQ, m_X8_doText_L4, if_neg c_1, if_neg c_2])
  refine lv_iconst (v := (0 : Int32)) hx hb dX8_doText_0 (by decide) ?_
  refine lv_istore_n (lv' := [(1, .int (0 : Int32)), (0, .ref (xa 0))]) hx hb dX8_doText_1 rfl hl (by decide) rfl (fun ls hl => ?_)
  refine lv_iconst (v := (1 : Int32)) hx hb dX8_doText_2 (by decide) ?_
  refine lv_istore_n (lv' := [(2, .int (1 : Int32)), (1, .int (0 : Int32)), (0, .ref (xa 0))]) hx hb dX8_doText_3 rfl hl (by decide) rfl (fun ls hl => ?_)
  exact L_4 1000 z (0 : Int32) (1 : Int32) hT hN (fe_init hT) (by rw [m_X8_doText]) s.heap [] hP hD hS ls (lv_sub hl [2, 1, 0] rfl)
theorem fe_TL (nF : Nat) : ∀ (r : TxT) (a : Int32), tL (m_X6_firstError_L22 nF r a).2 = tL r := by
  induction nF with
  | zero => intro r a; rfl
  | succ nF ih =>
    intro r a
    rw [m_X6_firstError_L22]
    repeat' split
    all_goals first
      | rfl
      | exact rc_L _ _
      | (rw [ih]; exact rc_L _ _)
theorem fe_T {tx : TxT} (h : iv 0 120 (tL tx)) : iv 0 120 (tL (m_X6_firstError tx).2) := by
  have e : tL (m_X6_firstError tx).2 = tL tx := by
    unfold m_X6_firstError
    repeat' split
    all_goals first
      | rfl
      | exact fe_TL _ _ _
  rw [e]; exact h
theorem ca_L2 : ∀ (nF : Nat) (r : CoT) (a : Nat), a ≤ 5 → 5 - a < nF → (∀ j, j < a → cC r j = 0) → ∀ i : Int32, i.toInt = a → ∀ j, j < 5 → cC (m_X0_clear_L2 nF r i) j = 0 := by
  intro nF
  induction nF with
  | zero => intro r a h1 h2; omega
  | succ nF ih =>
    intro r a h1 h2 h3 i hi j hj
    rw [m_X0_clear_L2]
    have e5 : (5 : Int32).toInt = 5 := by decide
    by_cases c : (5 : Int32) ≤ i
    · rw [if_pos c]
      rw [i32_le, e5, hi] at c
      exact h3 j (by omega)
    · rw [if_neg c]
      have c2 := c
      rw [i32_le, e5, hi] at c2
      have hn : i.toNatClampNeg = a := by
        have : i.toNatClampNeg = i.toInt.toNat := rfl
        omega
      refine ih _ (a + 1) (by omega) (by omega) (fun k hk => ?_) (i + 1) (by rw [lp_s c, hi]; rfl) j hj
      show upd (cC r) i.toNatClampNeg 0 k = 0
      rw [hn]
      by_cases g : k = a
      · rw [g, pk_us]
      · rw [pk_un g]; exact h3 k (by omega)
theorem an_keep : ∀ (nF : Nat) (r : StT) (k : Int32), sU (m_X5_startAnew_L24 nF r k) = sU r ∧ sC (m_X5_startAnew_L24 nF r k) = sC r := by
  intro nF
  induction nF with
  | zero => intro r k; exact ⟨rfl, rfl⟩
  | succ nF ih =>
    intro r k
    rw [m_X5_startAnew_L24]
    by_cases c : (5 : Int32) ≤ k
    · rw [if_pos c]; exact ⟨rfl, rfl⟩
    · rw [if_neg c]; exact ih _ _
theorem an_uN (st : StT) : uN (sU (m_X5_startAnew st)) = 0 := by
  rw [m_X5_startAnew, (an_keep _ _ _).1]; rfl
theorem an_cC (st : StT) : cC (sC (m_X5_startAnew st)) = cC (m_X0_clear (sC st)) := by
  rw [m_X5_startAnew, (an_keep _ _ _).2]; rfl
theorem ok_anew (st : StT) : stOK (m_X5_startAnew st) := by
  refine ⟨?_, fun j hj => ?_⟩
  · show 0 ≤ (uN (sU (m_X5_startAnew st))).toInt ∧ (uN (sU (m_X5_startAnew st))).toInt ≤ 16
    rw [an_uN]; decide
  · rw [an_cC, m_X0_clear, ca_L2 100 _ 0 (by omega) (by omega) (fun j h => by omega) 0 (by decide) j hj]; decide
