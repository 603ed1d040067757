theorem q_prep {cy : Nat → ClassId} {h0 h1 : Nat} {ka : Nat → Nat → Nat} {na : Nat → Nat} {z : HiT} {st : StT} {X T A B R : va_W} : (w7 X T A B R (wSt cy na st) (wHi cy h0 h1 ka z)).Perm ((wHi cy h0 h1 ka z ++ wSt cy na st) ++ w7 X T A B R [] []) := q_SN
def m_X8_come (z : SpT) (x1 : Int32) (x2 : Int32) (x3 : Int32) : Nat × Int32 × SpT := m_X8_finishAction (pN' (pH' z (hiPrep (pH z) (pN z))) (m_X5_tryCome (pN z) x1 x2 x3).2) (m_X5_tryCome (pN z) x1 x2 x3).1
set_option maxHeartbeats 2000000 in
set_option maxRecDepth 20000 in
theorem c_X8_come (l : Launch) (hl0 : l.stackTraces = false) (D : va_G) (cy : Nat → ClassId) (t : FxA) (xa sa sb tr na : Nat → Nat) (ka : Nat → Nat → Nat) (z : SpT) (x1 : Int32) (x2 : Int32) (x3 : Int32) (hH : hiOK (pH z)) (hN : stOK (pN z)) : EX l D cy t yX8_come wsX8_come ({ frames := 7, cells := 1, slots := 6, locals := 125 } : Room) (wSp cy xa sa sb tr na ka z) (wSp cy xa sa sb tr na ka (m_X8_come z x1 x2 x3).2.2) [.ref (xa 0), .int x1, .int x2, .int x3] 1 6 (m_X8_come z x1 x2 x3).1 (m_X8_come z x1 x2 x3).2.1 := by
  refine EX.body (by decide) rfl (Nat.le_of_ble_eq_true rfl) ?_
  intro p e s m below meth c hx hb hml hnx hr hts hown hlocks hP hG ls hl A hD hA hS hF
  have hl : lv_has ls 4 [(0, .ref (xa 0)), (1, .int x1), (2, .int x2), (3, .int x3)] := hl
  have hCF : CallFix p m c cX8_come 4 s ([.ref (xa 0), .int x1, .int x2, .int x3] : List Value).toArray wsX8_come RX8 := ⟨hx, hb, hml, hown, hts⟩
  have in_X8 : ∀ w ∈ u_ws RX8 TX8 6, w ∈ wsX8_come := fun _ h => List.mem_cons_of_mem _ (List.mem_append_left _ (List.mem_append_left _ (List.mem_append_left _ (List.mem_append_left _ (List.mem_append_left _ (List.mem_append_left _ (List.mem_append_left _ (List.mem_append_left _ (List.mem_append_right _ h)))))))))
  have kf := hts (Cond.fieldLink RX8 29 "SparePool" "history" "LSparePool$History;") (List.mem_of_getElem? (i := 1) rfl)
  have kn := hts (Cond.fieldLink RX8 19 "SparePool" "now" "LSparePool$State;") (List.mem_of_getElem? (i := 2) rfl)
  have k1a := hts (Cond.initialized RX2) (List.mem_of_getElem? (i := 4) rfl)
  have k2a := hts (Cond.instanceMethod yX2_prepare) (List.mem_of_getElem? (i := 3) rfl)
  have k3a := hts (Cond.selects RX2 yX2_prepare yX2_prepare) (List.mem_of_getElem? (i := 5) rfl)
  have k1b := hts (Cond.initialized RX5) (List.mem_of_getElem? (i := 11) rfl)
  have k2b := hts (Cond.instanceMethod yX5_tryCome) (List.mem_of_getElem? (i := 52) rfl)
  have k3b := hts (Cond.selects RX5 yX5_tryCome yX5_tryCome) (List.mem_of_getElem? (i := 53) rfl)
  refine lv_aload_n hx hb dX8_come_0 rfl (lv_at hl 0 rfl) ?_
  refine va_get (D := D) (ci := 6) (v := .ref (xa 5)) (C := RX8) (T := TX8) (N := 6) hx hb hts in_X8 hown hG.1 hP 0 g_Sp_0 rfl 3 (by decide) kf (fun _ h9 => h9) rfl dX8_come_1 ?_
  refine lv_aload_n hx hb dX8_come_4 rfl (lv_at hl 0 rfl) ?_
  refine va_get (D := D) (ci := 6) (v := .ref (na 0)) (C := RX8) (T := TX8) (N := 6) hx hb hts in_X8 hown hG.1 hP 0 g_Sp_0 rfl 1 (by decide) kn (fun _ h9 => h9) rfl dX8_come_5 ?_
  refine vwVN (ci := 2) (A0 := A) (As := [.ref (na 0)]) (rest := []) (W1 := wSp cy xa sa sb tr na ka z) (W2 := wSp cy xa sa sb tr na ka (pH' z (hiPrep (pH z) (pN z)))) ((c_X2_prepare l D cy (xa 5) (xa 6) ka na (pH z) (pN z) hH).ctx q_prep q_prep) hCF gX8_come_X2_prepare_n223 (nw_X8_223 hG.2) k1a k2a k3a rfl hd_X2_prepare ⟨rfl, rfl, Nat.le_of_ble_eq_true rfl, Nat.le_of_ble_eq_true rfl⟩ hG hP hD hS hA h_Sp rfl rfl (List.mem_of_getElem? g_Sp_65) rfl hl.1 rfl (Nat.le_of_ble_eq_true rfl) dX8_come_8 ⟨Nat.le_of_ble_eq_true rfl, Nat.le_of_ble_eq_true rfl⟩ (fun H locs hP hD hS => ?_)
  refine lv_aload_n hx hb dX8_come_11 rfl (lv_at hl 0 rfl) ?_
  refine lv_aload_n hx hb dX8_come_12 rfl (lv_at hl 0 rfl) ?_
  refine va_get (D := D) (ci := 6) (v := .ref (na 0)) (C := RX8) (T := TX8) (N := 6) hx hb hts in_X8 hown hG.1 hP 0 g_Sp_0 rfl 1 (by decide) kn (fun _ h9 => h9) rfl dX8_come_13 ?_
  refine lv_iload_n hx hb dX8_come_16 rfl (lv_at hl 1 rfl) ?_
  refine lv_iload_n hx hb dX8_come_17 rfl (lv_at hl 2 rfl) ?_
  refine lv_iload_n hx hb dX8_come_18 rfl (lv_at hl 3 rfl) ?_
  refine mwVN (ci := 3) (A0 := A) (As := [.int x1, .int x2, .int x3]) (rest := [.ref (xa 0)]) (W1 := wSp cy xa sa sb tr na ka (pH' z (hiPrep (pH z) (pN z)))) (W2 := wSp cy xa sa sb tr na ka (pN' (pH' z (hiPrep (pH z) (pN z))) (m_X5_tryCome (pN z) x1 x2 x3).2)) ((c_X5_tryCome l D cy na (pN z) x1 x2 x3 hN).ctx q_N q_N) hCF gX8_come_X5_tryCome_n86 (nw_X8_86 hG.2) k1b k2b k3b rfl hd_X5_tryCome ⟨rfl, rfl, Nat.le_of_ble_eq_true rfl, Nat.le_of_ble_eq_true rfl⟩ hG hP hD hS hA h_Sp rfl rfl (List.mem_of_getElem? g_Sp_50) rfl hl.1 rfl (Nat.le_of_ble_eq_true rfl) dX8_come_19 ⟨Nat.le_of_ble_eq_true rfl, Nat.le_of_ble_eq_true rfl⟩ (fun H locs hP hD hS => ?_)
  refine exV (ci := 6) (A0 := A) (As := [.int (m_X5_tryCome (pN z) x1 x2 x3).1]) (rest := []) (W1 := wSp cy xa sa sb tr na ka (pN' (pH' z (hiPrep (pH z) (pN z))) (m_X5_tryCome (pN z) x1 x2 x3).2)) (c_X8_finishAction l hl0 D cy t xa sa sb tr na ka (pN' (pH' z (hiPrep (pH z) (pN z))) (m_X5_tryCome (pN z) x1 x2 x3).2) (m_X5_tryCome (pN z) x1 x2 x3).1) hCF gX8_come_X8_finishAction rfl hd_X8_finishAction ⟨rfl, rfl, Nat.le_of_ble_eq_true rfl, Nat.le_of_ble_eq_true rfl⟩ hG hF hP hD hS hA h_Sp rfl rfl (List.mem_of_getElem? g_Sp_0) rfl hl.1 rfl (Nat.le_of_ble_eq_true rfl) dX8_come_22 ⟨Nat.le_of_ble_eq_true rfl, Nat.le_of_ble_eq_true rfl⟩ (fun h0 ce q9 H locs hP hD hS h1 h2 h3 => ?_) (fun h0 H locs hP hD hS => ?_)
  · exact ex_pass hnx hlocks hP hS h1 h2 h3 (Nat.le_of_ble_eq_true rfl) (Nat.le_of_ble_eq_true rfl) h0 rfl
  · exact ex_iret hx hb hr hlocks hP hS (Nat.le_of_ble_eq_true rfl) (Nat.le_of_ble_eq_true rfl) dX8_come_25 h0 rfl rfl
def m_X8_lend (z : SpT) (x1 : Int32) (x2 : Int32) (x3 : Int32) : Nat × Int32 × SpT := m_X8_finishAction (pN' (pH' z (hiPrep (pH z) (pN z))) (m_X5_tryLend (pN z) x1 x2 x3).2) (m_X5_tryLend (pN z) x1 x2 x3).1
set_option maxHeartbeats 2000000 in
set_option maxRecDepth 20000 in
theorem c_X8_lend (l : Launch) (hl0 : l.stackTraces = false) (D : va_G) (cy : Nat → ClassId) (t : FxA) (xa sa sb tr na : Nat → Nat) (ka : Nat → Nat → Nat) (z : SpT) (x1 : Int32) (x2 : Int32) (x3 : Int32) (hH : hiOK (pH z)) (hN : stOK (pN z)) : EX l D cy t yX8_lend wsX8_lend ({ frames := 7, cells := 1, slots := 6, locals := 125 } : Room) (wSp cy xa sa sb tr na ka z) (wSp cy xa sa sb tr na ka (m_X8_lend z x1 x2 x3).2.2) [.ref (xa 0), .int x1, .int x2, .int x3] 1 6 (m_X8_lend z x1 x2 x3).1 (m_X8_lend z x1 x2 x3).2.1 := by
  refine EX.body (by decide) rfl (Nat.le_of_ble_eq_true rfl) ?_
  intro p e s m below meth c hx hb hml hnx hr hts hown hlocks hP hG ls hl A hD hA hS hF
  have hl : lv_has ls 4 [(0, .ref (xa 0)), (1, .int x1), (2, .int x2), (3, .int x3)] := hl
  have hCF : CallFix p m c cX8_lend 4 s ([.ref (xa 0), .int x1, .int x2, .int x3] : List Value).toArray wsX8_lend RX8 := ⟨hx, hb, hml, hown, hts⟩
  have in_X8 : ∀ w ∈ u_ws RX8 TX8 6, w ∈ wsX8_lend := fun _ h => List.mem_cons_of_mem _ (List.mem_append_left _ (List.mem_append_left _ (List.mem_append_left _ (List.mem_append_left _ (List.mem_append_left _ (List.mem_append_left _ (List.mem_append_left _ (List.mem_append_left _ (List.mem_append_right _ h)))))))))
  have kf := hts (Cond.fieldLink RX8 29 "SparePool" "history" "LSparePool$History;") (List.mem_of_getElem? (i := 1) rfl)
  have kn := hts (Cond.fieldLink RX8 19 "SparePool" "now" "LSparePool$State;") (List.mem_of_getElem? (i := 2) rfl)
  have k1a := hts (Cond.initialized RX2) (List.mem_of_getElem? (i := 4) rfl)
  have k2a := hts (Cond.instanceMethod yX2_prepare) (List.mem_of_getElem? (i := 3) rfl)
  have k3a := hts (Cond.selects RX2 yX2_prepare yX2_prepare) (List.mem_of_getElem? (i := 5) rfl)
  have k1b := hts (Cond.initialized RX5) (List.mem_of_getElem? (i := 11) rfl)
  have k2b := hts (Cond.instanceMethod yX5_tryLend) (List.mem_of_getElem? (i := 52) rfl)
  have k3b := hts (Cond.selects RX5 yX5_tryLend yX5_tryLend) (List.mem_of_getElem? (i := 53) rfl)
  refine lv_aload_n hx hb dX8_lend_0 rfl (lv_at hl 0 rfl) ?_
  refine va_get (D := D) (ci := 6) (v := .ref (xa 5)) (C := RX8) (T := TX8) (N := 6) hx hb hts in_X8 hown hG.1 hP 0 g_Sp_0 rfl 3 (by decide) kf (fun _ h9 => h9) rfl dX8_lend_1 ?_
  refine lv_aload_n hx hb dX8_lend_4 rfl (lv_at hl 0 rfl) ?_
  refine va_get (D := D) (ci := 6) (v := .ref (na 0)) (C := RX8) (T := TX8) (N := 6) hx hb hts in_X8 hown hG.1 hP 0 g_Sp_0 rfl 1 (by decide) kn (fun _ h9 => h9) rfl dX8_lend_5 ?_
  refine vwVN (ci := 2) (A0 := A) (As := [.ref (na 0)]) (rest := []) (W1 := wSp cy xa sa sb tr na ka z) (W2 := wSp cy xa sa sb tr na ka (pH' z (hiPrep (pH z) (pN z)))) ((c_X2_prepare l D cy (xa 5) (xa 6) ka na (pH z) (pN z) hH).ctx q_prep q_prep) hCF gX8_lend_X2_prepare_n223 (nw_X8_223 hG.2) k1a k2a k3a rfl hd_X2_prepare ⟨rfl, rfl, Nat.le_of_ble_eq_true rfl, Nat.le_of_ble_eq_true rfl⟩ hG hP hD hS hA h_Sp rfl rfl (List.mem_of_getElem? g_Sp_65) rfl hl.1 rfl (Nat.le_of_ble_eq_true rfl) dX8_lend_8 ⟨Nat.le_of_ble_eq_true rfl, Nat.le_of_ble_eq_true rfl⟩ (fun H locs hP hD hS => ?_)
  refine lv_aload_n hx hb dX8_lend_11 rfl (lv_at hl 0 rfl) ?_
  refine lv_aload_n hx hb dX8_lend_12 rfl (lv_at hl 0 rfl) ?_
  refine va_get (D := D) (ci := 6) (v := .ref (na 0)) (C := RX8) (T := TX8) (N := 6) hx hb hts in_X8 hown hG.1 hP 0 g_Sp_0 rfl 1 (by decide) kn (fun _ h9 => h9) rfl dX8_lend_13 ?_
  refine lv_iload_n hx hb dX8_lend_16 rfl (lv_at hl 1 rfl) ?_
  refine lv_iload_n hx hb dX8_lend_17 rfl (lv_at hl 2 rfl) ?_
  refine lv_iload_n hx hb dX8_lend_18 rfl (lv_at hl 3 rfl) ?_
  refine mwVN (ci := 3) (A0 := A) (As := [.int x1, .int x2, .int x3]) (rest := [.ref (xa 0)]) (W1 := wSp cy xa sa sb tr na ka (pH' z (hiPrep (pH z) (pN z)))) (W2 := wSp cy xa sa sb tr na ka (pN' (pH' z (hiPrep (pH z) (pN z))) (m_X5_tryLend (pN z) x1 x2 x3).2)) ((c_X5_tryLend l D cy na (pN z) x1 x2 x3 hN).ctx q_N q_N) hCF gX8_lend_X5_tryLend_n90 (nw_X8_90 hG.2) k1b k2b k3b rfl hd_X5_tryLend ⟨rfl, rfl, Nat.le_of_ble_eq_true rfl, Nat.le_of_ble_eq_true rfl⟩ hG hP hD hS hA h_Sp rfl rfl (List.mem_of_getElem? g_Sp_50) rfl hl.1 rfl (Nat.le_of_ble_eq_true rfl) dX8_lend_19 ⟨Nat.le_of_ble_eq_true rfl, Nat.le_of_ble_eq_true rfl⟩ (fun H locs hP hD hS => ?_)
  refine exV (ci := 6) (A0 := A) (As := [.int (m_X5_tryLend (pN z) x1 x2 x3).1]) (rest := []) (W1 := wSp cy xa sa sb tr na ka (pN' (pH' z (hiPrep (pH z) (pN z))) (m_X5_tryLend (pN z) x1 x2 x3).2)) (c_X8_finishAction l hl0 D cy t xa sa sb tr na ka (pN' (pH' z (hiPrep (pH z) (pN z))) (m_X5_tryLend (pN z) x1 x2 x3).2) (m_X5_tryLend (pN z) x1 x2 x3).1) hCF gX8_lend_X8_finishAction rfl hd_X8_finishAction ⟨rfl, rfl, Nat.le_of_ble_eq_true rfl, Nat.le_of_ble_eq_true rfl⟩ hG hF hP hD hS hA h_Sp rfl rfl (List.mem_of_getElem? g_Sp_0) rfl hl.1 rfl (Nat.le_of_ble_eq_true rfl) dX8_lend_22 ⟨Nat.le_of_ble_eq_true rfl, Nat.le_of_ble_eq_true rfl⟩ (fun h0 ce q9 H locs hP hD hS h1 h2 h3 => ?_) (fun h0 H locs hP hD hS => ?_)
  · exact ex_pass hnx hlocks hP hS h1 h2 h3 (Nat.le_of_ble_eq_true rfl) (Nat.le_of_ble_eq_true rfl) h0 rfl
  · exact ex_iret hx hb hr hlocks hP hS (Nat.le_of_ble_eq_true rfl) (Nat.le_of_ble_eq_true rfl) dX8_lend_25 h0 rfl rfl
def m_X8_bring (z : SpT) (x1 : Int32) : Nat × Int32 × SpT := m_X8_finishAction (pN' (pH' z (hiPrep (pH z) (pN z))) (m_X5_tryBring (pN z) x1).2) (m_X5_tryBring (pN z) x1).1
set_option maxHeartbeats 2000000 in
set_option maxRecDepth 20000 in
theorem c_X8_bring (l : Launch) (hl0 : l.stackTraces = false) (D : va_G) (cy : Nat → ClassId) (t : FxA) (xa sa sb tr na : Nat → Nat) (ka : Nat → Nat → Nat) (z : SpT) (x1 : Int32) (hH : hiOK (pH z)) (hN : stOK (pN z)) : EX l D cy t yX8_bring wsX8_bring ({ frames := 7, cells := 1, slots := 6, locals := 125 } : Room) (wSp cy xa sa sb tr na ka z) (wSp cy xa sa sb tr na ka (m_X8_bring z x1).2.2) [.ref (xa 0), .int x1] 1 6 (m_X8_bring z x1).1 (m_X8_bring z x1).2.1 := by
  refine EX.body (by decide) rfl (Nat.le_of_ble_eq_true rfl) ?_
  intro p e s m below meth c hx hb hml hnx hr hts hown hlocks hP hG ls hl A hD hA hS hF
  have hl : lv_has ls 2 [(0, .ref (xa 0)), (1, .int x1)] := hl
  have hCF : CallFix p m c cX8_bring 2 s ([.ref (xa 0), .int x1] : List Value).toArray wsX8_bring RX8 := ⟨hx, hb, hml, hown, hts⟩
  have in_X8 : ∀ w ∈ u_ws RX8 TX8 6, w ∈ wsX8_bring := fun _ h => List.mem_cons_of_mem _ (List.mem_append_left _ (List.mem_append_left _ (List.mem_append_left _ (List.mem_append_left _ (List.mem_append_left _ (List.mem_append_left _ (List.mem_append_left _ (List.mem_append_left _ (List.mem_append_right _ h)))))))))
  have kf := hts (Cond.fieldLink RX8 29 "SparePool" "history" "LSparePool$History;") (List.mem_of_getElem? (i := 1) rfl)
  have kn := hts (Cond.fieldLink RX8 19 "SparePool" "now" "LSparePool$State;") (List.mem_of_getElem? (i := 2) rfl)
  have k1a := hts (Cond.initialized RX2) (List.mem_of_getElem? (i := 4) rfl)
  have k2a := hts (Cond.instanceMethod yX2_prepare) (List.mem_of_getElem? (i := 3) rfl)
  have k3a := hts (Cond.selects RX2 yX2_prepare yX2_prepare) (List.mem_of_getElem? (i := 5) rfl)
  have k1b := hts (Cond.initialized RX5) (List.mem_of_getElem? (i := 11) rfl)
  have k2b := hts (Cond.instanceMethod yX5_tryBring) (List.mem_of_getElem? (i := 52) rfl)
  have k3b := hts (Cond.selects RX5 yX5_tryBring yX5_tryBring) (List.mem_of_getElem? (i := 53) rfl)
  refine lv_aload_n hx hb dX8_bring_0 rfl (lv_at hl 0 rfl) ?_
  refine va_get (D := D) (ci := 6) (v := .ref (xa 5)) (C := RX8) (T := TX8) (N := 6) hx hb hts in_X8 hown hG.1 hP 0 g_Sp_0 rfl 3 (by decide) kf (fun _ h9 => h9) rfl dX8_bring_1 ?_
  refine lv_aload_n hx hb dX8_bring_4 rfl (lv_at hl 0 rfl) ?_
  refine va_get (D := D) (ci := 6) (v := .ref (na 0)) (C := RX8) (T := TX8) (N := 6) hx hb hts in_X8 hown hG.1 hP 0 g_Sp_0 rfl 1 (by decide) kn (fun _ h9 => h9) rfl dX8_bring_5 ?_
  refine vwVN (ci := 2) (A0 := A) (As := [.ref (na 0)]) (rest := []) (W1 := wSp cy xa sa sb tr na ka z) (W2 := wSp cy xa sa sb tr na ka (pH' z (hiPrep (pH z) (pN z)))) ((c_X2_prepare l D cy (xa 5) (xa 6) ka na (pH z) (pN z) hH).ctx q_prep q_prep) hCF gX8_bring_X2_prepare_n223 (nw_X8_223 hG.2) k1a k2a k3a rfl hd_X2_prepare ⟨rfl, rfl, Nat.le_of_ble_eq_true rfl, Nat.le_of_ble_eq_true rfl⟩ hG hP hD hS hA h_Sp rfl rfl (List.mem_of_getElem? g_Sp_65) rfl hl.1 rfl (Nat.le_of_ble_eq_true rfl) dX8_bring_8 ⟨Nat.le_of_ble_eq_true rfl, Nat.le_of_ble_eq_true rfl⟩ (fun H locs hP hD hS => ?_)
  refine lv_aload_n hx hb dX8_bring_11 rfl (lv_at hl 0 rfl) ?_
  refine lv_aload_n hx hb dX8_bring_12 rfl (lv_at hl 0 rfl) ?_
  refine va_get (D := D) (ci := 6) (v := .ref (na 0)) (C := RX8) (T := TX8) (N := 6) hx hb hts in_X8 hown hG.1 hP 0 g_Sp_0 rfl 1 (by decide) kn (fun _ h9 => h9) rfl dX8_bring_13 ?_
  refine lv_iload_n hx hb dX8_bring_16 rfl (lv_at hl 1 rfl) ?_
  refine mwVN (ci := 3) (A0 := A) (As := [.int x1]) (rest := [.ref (xa 0)]) (W1 := wSp cy xa sa sb tr na ka (pH' z (hiPrep (pH z) (pN z)))) (W2 := wSp cy xa sa sb tr na ka (pN' (pH' z (hiPrep (pH z) (pN z))) (m_X5_tryBring (pN z) x1).2)) ((c_X5_tryBring l D cy na (pN z) x1 hN).ctx q_N q_N) hCF gX8_bring_X5_tryBring_n93 (nw_X8_93 hG.2) k1b k2b k3b rfl hd_X5_tryBring ⟨rfl, rfl, Nat.le_of_ble_eq_true rfl, Nat.le_of_ble_eq_true rfl⟩ hG hP hD hS hA h_Sp rfl rfl (List.mem_of_getElem? g_Sp_50) rfl hl.1 rfl (Nat.le_of_ble_eq_true rfl) dX8_bring_17 ⟨Nat.le_of_ble_eq_true rfl, Nat.le_of_ble_eq_true rfl⟩ (fun H locs hP hD hS => ?_)
  refine exV (ci := 6) (A0 := A) (As := [.int (m_X5_tryBring (pN z) x1).1]) (rest := []) (W1 := wSp cy xa sa sb tr na ka (pN' (pH' z (hiPrep (pH z) (pN z))) (m_X5_tryBring (pN z) x1).2)) (c_X8_finishAction l hl0 D cy t xa sa sb tr na ka (pN' (pH' z (hiPrep (pH z) (pN z))) (m_X5_tryBring (pN z) x1).2) (m_X5_tryBring (pN z) x1).1) hCF gX8_bring_X8_finishAction rfl hd_X8_finishAction ⟨rfl, rfl, Nat.le_of_ble_eq_true rfl, Nat.le_of_ble_eq_true rfl⟩ hG hF hP hD hS hA h_Sp rfl rfl (List.mem_of_getElem? g_Sp_0) rfl hl.1 rfl (Nat.le_of_ble_eq_true rfl) dX8_bring_20 ⟨Nat.le_of_ble_eq_true rfl, Nat.le_of_ble_eq_true rfl⟩ (fun h0 ce q9 H locs hP hD hS h1 h2 h3 => ?_) (fun h0 H locs hP hD hS => ?_)
  · exact ex_pass hnx hlocks hP hS h1 h2 h3 (Nat.le_of_ble_eq_true rfl) (Nat.le_of_ble_eq_true rfl) h0 rfl
  · exact ex_iret hx hb hr hlocks hP hS (Nat.le_of_ble_eq_true rfl) (Nat.le_of_ble_eq_true rfl) dX8_bring_23 h0 rfl rfl
def m_X8_exchange (z : SpT) (x1 : Int32) (x2 : Int32) : Nat × Int32 × SpT := m_X8_finishAction (pN' (pH' z (hiPrep (pH z) (pN z))) (m_X5_tryExchange (pN z) x1 x2).2) (m_X5_tryExchange (pN z) x1 x2).1
set_option maxHeartbeats 2000000 in
set_option maxRecDepth 20000 in
theorem c_X8_exchange (l : Launch) (hl0 : l.stackTraces = false) (D : va_G) (cy : Nat → ClassId) (t : FxA) (xa sa sb tr na : Nat → Nat) (ka : Nat → Nat → Nat) (z : SpT) (x1 : Int32) (x2 : Int32) (hH : hiOK (pH z)) (hN : stOK (pN z)) : EX l D cy t yX8_exchange wsX8_exchange ({ frames := 7, cells := 1, slots := 6, locals := 125 } : Room) (wSp cy xa sa sb tr na ka z) (wSp cy xa sa sb tr na ka (m_X8_exchange z x1 x2).2.2) [.ref (xa 0), .int x1, .int x2] 1 6 (m_X8_exchange z x1 x2).1 (m_X8_exchange z x1 x2).2.1 := by
  refine EX.body (by decide) rfl (Nat.le_of_ble_eq_true rfl) ?_
  intro p e s m below meth c hx hb hml hnx hr hts hown hlocks hP hG ls hl A hD hA hS hF
  have hl : lv_has ls 3 [(0, .ref (xa 0)), (1, .int x1), (2, .int x2)] := hl
  have hCF : CallFix p m c cX8_exchange 3 s ([.ref (xa 0), .int x1, .int x2] : List Value).toArray wsX8_exchange RX8 := ⟨hx, hb, hml, hown, hts⟩
  have in_X8 : ∀ w ∈ u_ws RX8 TX8 6, w ∈ wsX8_exchange := fun _ h => List.mem_cons_of_mem _ (List.mem_append_left _ (List.mem_append_left _ (List.mem_append_left _ (List.mem_append_left _ (List.mem_append_left _ (List.mem_append_left _ (List.mem_append_left _ (List.mem_append_left _ (List.mem_append_right _ h)))))))))
  have kf := hts (Cond.fieldLink RX8 29 "SparePool" "history" "LSparePool$History;") (List.mem_of_getElem? (i := 1) rfl)
  have kn := hts (Cond.fieldLink RX8 19 "SparePool" "now" "LSparePool$State;") (List.mem_of_getElem? (i := 2) rfl)
  have k1a := hts (Cond.initialized RX2) (List.mem_of_getElem? (i := 4) rfl)
  have k2a := hts (Cond.instanceMethod yX2_prepare) (List.mem_of_getElem? (i := 3) rfl)
  have k3a := hts (Cond.selects RX2 yX2_prepare yX2_prepare) (List.mem_of_getElem? (i := 5) rfl)
  have k1b := hts (Cond.initialized RX5) (List.mem_of_getElem? (i := 11) rfl)
  have k2b := hts (Cond.instanceMethod yX5_tryExchange) (List.mem_of_getElem? (i := 52) rfl)
  have k3b := hts (Cond.selects RX5 yX5_tryExchange yX5_tryExchange) (List.mem_of_getElem? (i := 53) rfl)
  refine lv_aload_n hx hb dX8_exchange_0 rfl (lv_at hl 0 rfl) ?_
  refine va_get (D := D) (ci := 6) (v := .ref (xa 5)) (C := RX8) (T := TX8) (N := 6) hx hb hts in_X8 hown hG.1 hP 0 g_Sp_0 rfl 3 (by decide) kf (fun _ h9 => h9) rfl dX8_exchange_1 ?_
  refine lv_aload_n hx hb dX8_exchange_4 rfl (lv_at hl 0 rfl) ?_
  refine va_get (D := D) (ci := 6) (v := .ref (na 0)) (C := RX8) (T := TX8) (N := 6) hx hb hts in_X8 hown hG.1 hP 0 g_Sp_0 rfl 1 (by decide) kn (fun _ h9 => h9) rfl dX8_exchange_5 ?_
  refine vwVN (ci := 2) (A0 := A) (As := [.ref (na 0)]) (rest := []) (W1 := wSp cy xa sa sb tr na ka z) (W2 := wSp cy xa sa sb tr na ka (pH' z (hiPrep (pH z) (pN z)))) ((c_X2_prepare l D cy (xa 5) (xa 6) ka na (pH z) (pN z) hH).ctx q_prep q_prep) hCF gX8_exchange_X2_prepare_n223 (nw_X8_223 hG.2) k1a k2a k3a rfl hd_X2_prepare ⟨rfl, rfl, Nat.le_of_ble_eq_true rfl, Nat.le_of_ble_eq_true rfl⟩ hG hP hD hS hA h_Sp rfl rfl (List.mem_of_getElem? g_Sp_65) rfl hl.1 rfl (Nat.le_of_ble_eq_true rfl) dX8_exchange_8 ⟨Nat.le_of_ble_eq_true rfl, Nat.le_of_ble_eq_true rfl⟩ (fun H locs hP hD hS => ?_)
  refine lv_aload_n hx hb dX8_exchange_11 rfl (lv_at hl 0 rfl) ?_
  refine lv_aload_n hx hb dX8_exchange_12 rfl (lv_at hl 0 rfl) ?_
  refine va_get (D := D) (ci := 6) (v := .ref (na 0)) (C := RX8) (T := TX8) (N := 6) hx hb hts in_X8 hown hG.1 hP 0 g_Sp_0 rfl 1 (by decide) kn (fun _ h9 => h9) rfl dX8_exchange_13 ?_
  refine lv_iload_n hx hb dX8_exchange_16 rfl (lv_at hl 1 rfl) ?_
  refine lv_iload_n hx hb dX8_exchange_17 rfl (lv_at hl 2 rfl) ?_
  refine mwVN (ci := 3) (A0 := A) (As := [.int x1, .int x2]) (rest := [.ref (xa 0)]) (W1 := wSp cy xa sa sb tr na ka (pH' z (hiPrep (pH z) (pN z)))) (W2 := wSp cy xa sa sb tr na ka (pN' (pH' z (hiPrep (pH z) (pN z))) (m_X5_tryExchange (pN z) x1 x2).2)) ((c_X5_tryExchange l D cy na (pN z) x1 x2 hN).ctx q_N q_N) hCF gX8_exchange_X5_tryExchange_n96 (nw_X8_96 hG.2) k1b k2b k3b rfl hd_X5_tryExchange ⟨rfl, rfl, Nat.le_of_ble_eq_true rfl, Nat.le_of_ble_eq_true rfl⟩ hG hP hD hS hA h_Sp rfl rfl (List.mem_of_getElem? g_Sp_50) rfl hl.1 rfl (Nat.le_of_ble_eq_true rfl) dX8_exchange_18 ⟨Nat.le_of_ble_eq_true rfl, Nat.le_of_ble_eq_true rfl⟩ (fun H locs hP hD hS => ?_)
  refine exV (ci := 6) (A0 := A) (As := [.int (m_X5_tryExchange (pN z) x1 x2).1]) (rest := []) (W1 := wSp cy xa sa sb tr na ka (pN' (pH' z (hiPrep (pH z) (pN z))) (m_X5_tryExchange (pN z) x1 x2).2)) (c_X8_finishAction l hl0 D cy t xa sa sb tr na ka (pN' (pH' z (hiPrep (pH z) (pN z))) (m_X5_tryExchange (pN z) x1 x2).2) (m_X5_tryExchange (pN z) x1 x2).1) hCF gX8_exchange_X8_finishAction rfl hd_X8_finishAction ⟨rfl, rfl, Nat.le_of_ble_eq_true rfl, Nat.le_of_ble_eq_true rfl⟩ hG hF hP hD hS hA h_Sp rfl rfl (List.mem_of_getElem? g_Sp_0) rfl hl.1 rfl (Nat.le_of_ble_eq_true rfl) dX8_exchange_21 ⟨Nat.le_of_ble_eq_true rfl, Nat.le_of_ble_eq_true rfl⟩ (fun h0 ce q9 H locs hP hD hS h1 h2 h3 => ?_) (fun h0 H locs hP hD hS => ?_)
  · exact ex_pass hnx hlocks hP hS h1 h2 h3 (Nat.le_of_ble_eq_true rfl) (Nat.le_of_ble_eq_true rfl) h0 rfl
  · exact ex_iret hx hb hr hlocks hP hS (Nat.le_of_ble_eq_true rfl) (Nat.le_of_ble_eq_true rfl) dX8_exchange_24 h0 rfl rfl
def m_X8_advance (z : SpT) (x1 : Int32) (x2 : Int32) (x3 : Int32) : Nat × Int32 × SpT := m_X8_finishAction (pN' (pH' z (hiPrep (pH z) (pN z))) (m_X5_tryAdvance (pN z) x1 x2 x3).2) (m_X5_tryAdvance (pN z) x1 x2 x3).1
set_option maxHeartbeats 2000000 in
set_option maxRecDepth 20000 in
theorem c_X8_advance (l : Launch) (hl0 : l.stackTraces = false) (D : va_G) (cy : Nat → ClassId) (t : FxA) (xa sa sb tr na : Nat → Nat) (ka : Nat → Nat → Nat) (z : SpT) (x1 : Int32) (x2 : Int32) (x3 : Int32) (hH : hiOK (pH z)) (hN : stOK (pN z)) : EX l D cy t yX8_advance wsX8_advance ({ frames := 7, cells := 1, slots := 6, locals := 125 } : Room) (wSp cy xa sa sb tr na ka z) (wSp cy xa sa sb tr na ka (m_X8_advance z x1 x2 x3).2.2) [.ref (xa 0), .int x1, .int x2, .int x3] 1 6 (m_X8_advance z x1 x2 x3).1 (m_X8_advance z x1 x2 x3).2.1 := by
  refine EX.body (by decide) rfl (Nat.le_of_ble_eq_true rfl) ?_
  intro p e s m below meth c hx hb hml hnx hr hts hown hlocks hP hG ls hl A hD hA hS hF
  have hl : lv_has ls 4 [(0, .ref (xa 0)), (1, .int x1), (2, .int x2), (3, .int x3)] := hl
  have hCF : CallFix p m c cX8_advance 4 s ([.ref (xa 0), .int x1, .int x2, .int x3] : List Value).toArray wsX8_advance RX8 := ⟨hx, hb, hml, hown, hts⟩
  have in_X8 : ∀ w ∈ u_ws RX8 TX8 6, w ∈ wsX8_advance := fun _ h => List.mem_cons_of_mem _ (List.mem_append_left _ (List.mem_append_left _ (List.mem_append_left _ (List.mem_append_left _ (List.mem_append_left _ (List.mem_append_left _ (List.mem_append_left _ (List.mem_append_left _ (List.mem_append_right _ h)))))))))
  have kf := hts (Cond.fieldLink RX8 29 "SparePool" "history" "LSparePool$History;") (List.mem_of_getElem? (i := 1) rfl)
  have kn := hts (Cond.fieldLink RX8 19 "SparePool" "now" "LSparePool$State;") (List.mem_of_getElem? (i := 2) rfl)
  have k1a := hts (Cond.initialized RX2) (List.mem_of_getElem? (i := 4) rfl)
  have k2a := hts (Cond.instanceMethod yX2_prepare) (List.mem_of_getElem? (i := 3) rfl)
  have k3a := hts (Cond.selects RX2 yX2_prepare yX2_prepare) (List.mem_of_getElem? (i := 5) rfl)
  have k1b := hts (Cond.initialized RX5) (List.mem_of_getElem? (i := 11) rfl)
  have k2b := hts (Cond.instanceMethod yX5_tryAdvance) (List.mem_of_getElem? (i := 52) rfl)
  have k3b := hts (Cond.selects RX5 yX5_tryAdvance yX5_tryAdvance) (List.mem_of_getElem? (i := 53) rfl)
  refine lv_aload_n hx hb dX8_advance_0 rfl (lv_at hl 0 rfl) ?_
  refine va_get (D := D) (ci := 6) (v := .ref (xa 5)) (C := RX8) (T := TX8) (N := 6) hx hb hts in_X8 hown hG.1 hP 0 g_Sp_0 rfl 3 (by decide) kf (fun _ h9 => h9) rfl dX8_advance_1 ?_
  refine lv_aload_n hx hb dX8_advance_4 rfl (lv_at hl 0 rfl) ?_
  refine va_get (D := D) (ci := 6) (v := .ref (na 0)) (C := RX8) (T := TX8) (N := 6) hx hb hts in_X8 hown hG.1 hP 0 g_Sp_0 rfl 1 (by decide) kn (fun _ h9 => h9) rfl dX8_advance_5 ?_
  refine vwVN (ci := 2) (A0 := A) (As := [.ref (na 0)]) (rest := []) (W1 := wSp cy xa sa sb tr na ka z) (W2 := wSp cy xa sa sb tr na ka (pH' z (hiPrep (pH z) (pN z)))) ((c_X2_prepare l D cy (xa 5) (xa 6) ka na (pH z) (pN z) hH).ctx q_prep q_prep) hCF gX8_advance_X2_prepare_n223 (nw_X8_223 hG.2) k1a k2a k3a rfl hd_X2_prepare ⟨rfl, rfl, Nat.le_of_ble_eq_true rfl, Nat.le_of_ble_eq_true rfl⟩ hG hP hD hS hA h_Sp rfl rfl (List.mem_of_getElem? g_Sp_65) rfl hl.1 rfl (Nat.le_of_ble_eq_true rfl) dX8_advance_8 ⟨Nat.le_of_ble_eq_true rfl, Nat.le_of_ble_eq_true rfl⟩ (fun H locs hP hD hS => ?_)
  refine lv_aload_n hx hb dX8_advance_11 rfl (lv_at hl 0 rfl) ?_
  refine lv_aload_n hx hb dX8_advance_12 rfl (lv_at hl 0 rfl) ?_
  refine va_get (D := D) (ci := 6) (v := .ref (na 0)) (C := RX8) (T := TX8) (N := 6) hx hb hts in_X8 hown hG.1 hP 0 g_Sp_0 rfl 1 (by decide) kn (fun _ h9 => h9) rfl dX8_advance_13 ?_
  refine lv_iload_n hx hb dX8_advance_16 rfl (lv_at hl 1 rfl) ?_
  refine lv_iload_n hx hb dX8_advance_17 rfl (lv_at hl 2 rfl) ?_
  refine lv_iload_n hx hb dX8_advance_18 rfl (lv_at hl 3 rfl) ?_
  refine mwVN (ci := 3) (A0 := A) (As := [.int x1, .int x2, .int x3]) (rest := [.ref (xa 0)]) (W1 := wSp cy xa sa sb tr na ka (pH' z (hiPrep (pH z) (pN z)))) (W2 := wSp cy xa sa sb tr na ka (pN' (pH' z (hiPrep (pH z) (pN z))) (m_X5_tryAdvance (pN z) x1 x2 x3).2)) ((c_X5_tryAdvance l D cy na (pN z) x1 x2 x3 hN).ctx q_N q_N) hCF gX8_advance_X5_tryAdvance_n230 (nw_X8_230 hG.2) k1b k2b k3b rfl hd_X5_tryAdvance ⟨rfl, rfl, Nat.le_of_ble_eq_true rfl, Nat.le_of_ble_eq_true rfl⟩ hG hP hD hS hA h_Sp rfl rfl (List.mem_of_getElem? g_Sp_50) rfl hl.1 rfl (Nat.le_of_ble_eq_true rfl) dX8_advance_19 ⟨Nat.le_of_ble_eq_true rfl, Nat.le_of_ble_eq_true rfl⟩ (fun H locs hP hD hS => ?_)
  refine exV (ci := 6) (A0 := A) (As := [.int (m_X5_tryAdvance (pN z) x1 x2 x3).1]) (rest := []) (W1 := wSp cy xa sa sb tr na ka (pN' (pH' z (hiPrep (pH z) (pN z))) (m_X5_tryAdvance (pN z) x1 x2 x3).2)) (c_X8_finishAction l hl0 D cy t xa sa sb tr na ka (pN' (pH' z (hiPrep (pH z) (pN z))) (m_X5_tryAdvance (pN z) x1 x2 x3).2) (m_X5_tryAdvance (pN z) x1 x2 x3).1) hCF gX8_advance_X8_finishAction rfl hd_X8_finishAction ⟨rfl, rfl, Nat.le_of_ble_eq_true rfl, Nat.le_of_ble_eq_true rfl⟩ hG hF hP hD hS hA h_Sp rfl rfl (List.mem_of_getElem? g_Sp_0) rfl hl.1 rfl (Nat.le_of_ble_eq_true rfl) dX8_advance_22 ⟨Nat.le_of_ble_eq_true rfl, Nat.le_of_ble_eq_true rfl⟩ (fun h0 ce q9 H locs hP hD hS h1 h2 h3 => ?_) (fun h0 H locs hP hD hS => ?_)
  · exact ex_pass hnx hlocks hP hS h1 h2 h3 (Nat.le_of_ble_eq_true rfl) (Nat.le_of_ble_eq_true rfl) h0 rfl
  · exact ex_iret hx hb hr hlocks hP hS (Nat.le_of_ble_eq_true rfl) (Nat.le_of_ble_eq_true rfl) dX8_advance_25 h0 rfl rfl
def m_X8_deliver (z : SpT) (x1 : Int32) : Nat × Int32 × SpT := m_X8_finishAction (pN' (pH' z (hiPrep (pH z) (pN z))) (m_X5_tryDeliver (pN z) x1).2) (m_X5_tryDeliver (pN z) x1).1
set_option maxHeartbeats 2000000 in
set_option maxRecDepth 20000 in
theorem c_X8_deliver (l : Launch) (hl0 : l.stackTraces = false) (D : va_G) (cy : Nat → ClassId) (t : FxA) (xa sa sb tr na : Nat → Nat) (ka : Nat → Nat → Nat) (z : SpT) (x1 : Int32) (hH : hiOK (pH z)) (hN : stOK (pN z)) : EX l D cy t yX8_deliver wsX8_deliver ({ frames := 7, cells := 1, slots := 6, locals := 125 } : Room) (wSp cy xa sa sb tr na ka z) (wSp cy xa sa sb tr na ka (m_X8_deliver z x1).2.2) [.ref (xa 0), .int x1] 1 6 (m_X8_deliver z x1).1 (m_X8_deliver z x1).2.1 := by
  refine EX.body (by decide) rfl (Nat.le_of_ble_eq_true rfl) ?_
  intro p e s m below meth c hx hb hml hnx hr hts hown hlocks hP hG ls hl A hD hA hS hF
  have hl : lv_has ls 2 [(0, .ref (xa 0)), (1, .int x1)] := hl
  have hCF : CallFix p m c cX8_deliver 2 s ([.ref (xa 0), .int x1] : List Value).toArray wsX8_deliver RX8 := ⟨hx, hb, hml, hown, hts⟩
  have in_X8 : ∀ w ∈ u_ws RX8 TX8 6, w ∈ wsX8_deliver := fun _ h => List.mem_cons_of_mem _ (List.mem_append_left _ (List.mem_append_left _ (List.mem_append_left _ (List.mem_append_left _ (List.mem_append_left _ (List.mem_append_left _ (List.mem_append_left _ (List.mem_append_left _ (List.mem_append_right _ h)))))))))
  have kf := hts (Cond.fieldLink RX8 29 "SparePool" "history" "LSparePool$History;") (List.mem_of_getElem? (i := 1) rfl)
  have kn := hts (Cond.fieldLink RX8 19 "SparePool" "now" "LSparePool$State;") (List.mem_of_getElem? (i := 2) rfl)
  have k1a := hts (Cond.initialized RX2) (List.mem_of_getElem? (i := 4) rfl)
  have k2a := hts (Cond.instanceMethod yX2_prepare) (List.mem_of_getElem? (i := 3) rfl)
  have k3a := hts (Cond.selects RX2 yX2_prepare yX2_prepare) (List.mem_of_getElem? (i := 5) rfl)
  have k1b := hts (Cond.initialized RX5) (List.mem_of_getElem? (i := 11) rfl)
  have k2b := hts (Cond.instanceMethod yX5_tryDeliver) (List.mem_of_getElem? (i := 52) rfl)
  have k3b := hts (Cond.selects RX5 yX5_tryDeliver yX5_tryDeliver) (List.mem_of_getElem? (i := 53) rfl)
  refine lv_aload_n hx hb dX8_deliver_0 rfl (lv_at hl 0 rfl) ?_
  refine va_get (D := D) (ci := 6) (v := .ref (xa 5)) (C := RX8) (T := TX8) (N := 6) hx hb hts in_X8 hown hG.1 hP 0 g_Sp_0 rfl 3 (by decide) kf (fun _ h9 => h9) rfl dX8_deliver_1 ?_
  refine lv_aload_n hx hb dX8_deliver_4 rfl (lv_at hl 0 rfl) ?_
  refine va_get (D := D) (ci := 6) (v := .ref (na 0)) (C := RX8) (T := TX8) (N := 6) hx hb hts in_X8 hown hG.1 hP 0 g_Sp_0 rfl 1 (by decide) kn (fun _ h9 => h9) rfl dX8_deliver_5 ?_
  refine vwVN (ci := 2) (A0 := A) (As := [.ref (na 0)]) (rest := []) (W1 := wSp cy xa sa sb tr na ka z) (W2 := wSp cy xa sa sb tr na ka (pH' z (hiPrep (pH z) (pN z)))) ((c_X2_prepare l D cy (xa 5) (xa 6) ka na (pH z) (pN z) hH).ctx q_prep q_prep) hCF gX8_deliver_X2_prepare_n223 (nw_X8_223 hG.2) k1a k2a k3a rfl hd_X2_prepare ⟨rfl, rfl, Nat.le_of_ble_eq_true rfl, Nat.le_of_ble_eq_true rfl⟩ hG hP hD hS hA h_Sp rfl rfl (List.mem_of_getElem? g_Sp_65) rfl hl.1 rfl (Nat.le_of_ble_eq_true rfl) dX8_deliver_8 ⟨Nat.le_of_ble_eq_true rfl, Nat.le_of_ble_eq_true rfl⟩ (fun H locs hP hD hS => ?_)
  refine lv_aload_n hx hb dX8_deliver_11 rfl (lv_at hl 0 rfl) ?_
  refine lv_aload_n hx hb dX8_deliver_12 rfl (lv_at hl 0 rfl) ?_
  refine va_get (D := D) (ci := 6) (v := .ref (na 0)) (C := RX8) (T := TX8) (N := 6) hx hb hts in_X8 hown hG.1 hP 0 g_Sp_0 rfl 1 (by decide) kn (fun _ h9 => h9) rfl dX8_deliver_13 ?_
  refine lv_iload_n hx hb dX8_deliver_16 rfl (lv_at hl 1 rfl) ?_
  refine mwVN (ci := 3) (A0 := A) (As := [.int x1]) (rest := [.ref (xa 0)]) (W1 := wSp cy xa sa sb tr na ka (pH' z (hiPrep (pH z) (pN z)))) (W2 := wSp cy xa sa sb tr na ka (pN' (pH' z (hiPrep (pH z) (pN z))) (m_X5_tryDeliver (pN z) x1).2)) ((c_X5_tryDeliver l D cy na (pN z) x1 hN).ctx q_N q_N) hCF gX8_deliver_X5_tryDeliver_n233 (nw_X8_233 hG.2) k1b k2b k3b rfl hd_X5_tryDeliver ⟨rfl, rfl, Nat.le_of_ble_eq_true rfl, Nat.le_of_ble_eq_true rfl⟩ hG hP hD hS hA h_Sp rfl rfl (List.mem_of_getElem? g_Sp_50) rfl hl.1 rfl (Nat.le_of_ble_eq_true rfl) dX8_deliver_17 ⟨Nat.le_of_ble_eq_true rfl, Nat.le_of_ble_eq_true rfl⟩ (fun H locs hP hD hS => ?_)
  refine exV (ci := 6) (A0 := A) (As := [.int (m_X5_tryDeliver (pN z) x1).1]) (rest := []) (W1 := wSp cy xa sa sb tr na ka (pN' (pH' z (hiPrep (pH z) (pN z))) (m_X5_tryDeliver (pN z) x1).2)) (c_X8_finishAction l hl0 D cy t xa sa sb tr na ka (pN' (pH' z (hiPrep (pH z) (pN z))) (m_X5_tryDeliver (pN z) x1).2) (m_X5_tryDeliver (pN z) x1).1) hCF gX8_deliver_X8_finishAction rfl hd_X8_finishAction ⟨rfl, rfl, Nat.le_of_ble_eq_true rfl, Nat.le_of_ble_eq_true rfl⟩ hG hF hP hD hS hA h_Sp rfl rfl (List.mem_of_getElem? g_Sp_0) rfl hl.1 rfl (Nat.le_of_ble_eq_true rfl) dX8_deliver_20 ⟨Nat.le_of_ble_eq_true rfl, Nat.le_of_ble_eq_true rfl⟩ (fun h0 ce q9 H locs hP hD hS h1 h2 h3 => ?_) (fun h0 H locs hP hD hS => ?_)
  · exact ex_pass hnx hlocks hP hS h1 h2 h3 (Nat.le_of_ble_eq_true rfl) (Nat.le_of_ble_eq_true rfl) h0 rfl
  · exact ex_iret hx hb hr hlocks hP hS (Nat.le_of_ble_eq_true rfl) (Nat.le_of_ble_eq_true rfl) dX8_deliver_23 h0 rfl rfl
def m_X8_take (z : SpT) (x1 : Int32) (x2 : Int32) (x3 : Int32) : Nat × Int32 × SpT := m_X8_finishAction (pN' (pH' z (hiPrep (pH z) (pN z))) (m_X5_tryTake (pN z) x1 x2 x3).2) (m_X5_tryTake (pN z) x1 x2 x3).1
set_option maxHeartbeats 2000000 in
set_option maxRecDepth 20000 in
theorem c_X8_take (l : Launch) (hl0 : l.stackTraces = false) (D : va_G) (cy : Nat → ClassId) (t : FxA) (xa sa sb tr na : Nat → Nat) (ka : Nat → Nat → Nat) (z : SpT) (x1 : Int32) (x2 : Int32) (x3 : Int32) (hH : hiOK (pH z)) (hN : stOK (pN z)) : EX l D cy t yX8_take wsX8_take ({ frames := 7, cells := 1, slots := 6, locals := 125 } : Room) (wSp cy xa sa sb tr na ka z) (wSp cy xa sa sb tr na ka (m_X8_take z x1 x2 x3).2.2) [.ref (xa 0), .int x1, .int x2, .int x3] 1 6 (m_X8_take z x1 x2 x3).1 (m_X8_take z x1 x2 x3).2.1 := by
  refine EX.body (by decide) rfl (Nat.le_of_ble_eq_true rfl) ?_
  intro p e s m below meth c hx hb hml hnx hr hts hown hlocks hP hG ls hl A hD hA hS hF
  have hl : lv_has ls 4 [(0, .ref (xa 0)), (1, .int x1), (2, .int x2), (3, .int x3)] := hl
  have hCF : CallFix p m c cX8_take 4 s ([.ref (xa 0), .int x1, .int x2, .int x3] : List Value).toArray wsX8_take RX8 := ⟨hx, hb, hml, hown, hts⟩
  have in_X8 : ∀ w ∈ u_ws RX8 TX8 6, w ∈ wsX8_take := fun _ h => List.mem_cons_of_mem _ (List.mem_append_left _ (List.mem_append_left _ (List.mem_append_left _ (List.mem_append_left _ (List.mem_append_left _ (List.mem_append_left _ (List.mem_append_left _ (List.mem_append_left _ (List.mem_append_right _ h)))))))))
  have kf := hts (Cond.fieldLink RX8 29 "SparePool" "history" "LSparePool$History;") (List.mem_of_getElem? (i := 1) rfl)
  have kn := hts (Cond.fieldLink RX8 19 "SparePool" "now" "LSparePool$State;") (List.mem_of_getElem? (i := 2) rfl)
  have k1a := hts (Cond.initialized RX2) (List.mem_of_getElem? (i := 4) rfl)
  have k2a := hts (Cond.instanceMethod yX2_prepare) (List.mem_of_getElem? (i := 3) rfl)
  have k3a := hts (Cond.selects RX2 yX2_prepare yX2_prepare) (List.mem_of_getElem? (i := 5) rfl)
  have k1b := hts (Cond.initialized RX5) (List.mem_of_getElem? (i := 11) rfl)
  have k2b := hts (Cond.instanceMethod yX5_tryTake) (List.mem_of_getElem? (i := 52) rfl)
  have k3b := hts (Cond.selects RX5 yX5_tryTake yX5_tryTake) (List.mem_of_getElem? (i := 53) rfl)
  refine lv_aload_n hx hb dX8_take_0 rfl (lv_at hl 0 rfl) ?_
  refine va_get (D := D) (ci := 6) (v := .ref (xa 5)) (C := RX8) (T := TX8) (N := 6) hx hb hts in_X8 hown hG.1 hP 0 g_Sp_0 rfl 3 (by decide) kf (fun _ h9 => h9) rfl dX8_take_1 ?_
  refine lv_aload_n hx hb dX8_take_4 rfl (lv_at hl 0 rfl) ?_
  refine va_get (D := D) (ci := 6) (v := .ref (na 0)) (C := RX8) (T := TX8) (N := 6) hx hb hts in_X8 hown hG.1 hP 0 g_Sp_0 rfl 1 (by decide) kn (fun _ h9 => h9) rfl dX8_take_5 ?_
  refine vwVN (ci := 2) (A0 := A) (As := [.ref (na 0)]) (rest := []) (W1 := wSp cy xa sa sb tr na ka z) (W2 := wSp cy xa sa sb tr na ka (pH' z (hiPrep (pH z) (pN z)))) ((c_X2_prepare l D cy (xa 5) (xa 6) ka na (pH z) (pN z) hH).ctx q_prep q_prep) hCF gX8_take_X2_prepare_n223 (nw_X8_223 hG.2) k1a k2a k3a rfl hd_X2_prepare ⟨rfl, rfl, Nat.le_of_ble_eq_true rfl, Nat.le_of_ble_eq_true rfl⟩ hG hP hD hS hA h_Sp rfl rfl (List.mem_of_getElem? g_Sp_65) rfl hl.1 rfl (Nat.le_of_ble_eq_true rfl) dX8_take_8 ⟨Nat.le_of_ble_eq_true rfl, Nat.le_of_ble_eq_true rfl⟩ (fun H locs hP hD hS => ?_)
  refine lv_aload_n hx hb dX8_take_11 rfl (lv_at hl 0 rfl) ?_
  refine lv_aload_n hx hb dX8_take_12 rfl (lv_at hl 0 rfl) ?_
  refine va_get (D := D) (ci := 6) (v := .ref (na 0)) (C := RX8) (T := TX8) (N := 6) hx hb hts in_X8 hown hG.1 hP 0 g_Sp_0 rfl 1 (by decide) kn (fun _ h9 => h9) rfl dX8_take_13 ?_
  refine lv_iload_n hx hb dX8_take_16 rfl (lv_at hl 1 rfl) ?_
  refine lv_iload_n hx hb dX8_take_17 rfl (lv_at hl 2 rfl) ?_
  refine lv_iload_n hx hb dX8_take_18 rfl (lv_at hl 3 rfl) ?_
  refine mwVN (ci := 3) (A0 := A) (As := [.int x1, .int x2, .int x3]) (rest := [.ref (xa 0)]) (W1 := wSp cy xa sa sb tr na ka (pH' z (hiPrep (pH z) (pN z)))) (W2 := wSp cy xa sa sb tr na ka (pN' (pH' z (hiPrep (pH z) (pN z))) (m_X5_tryTake (pN z) x1 x2 x3).2)) ((c_X5_tryTake l D cy na (pN z) x1 x2 x3 hN).ctx q_N q_N) hCF gX8_take_X5_tryTake_n100 (nw_X8_100 hG.2) k1b k2b k3b rfl hd_X5_tryTake ⟨rfl, rfl, Nat.le_of_ble_eq_true rfl, Nat.le_of_ble_eq_true rfl⟩ hG hP hD hS hA h_Sp rfl rfl (List.mem_of_getElem? g_Sp_50) rfl hl.1 rfl (Nat.le_of_ble_eq_true rfl) dX8_take_19 ⟨Nat.le_of_ble_eq_true rfl, Nat.le_of_ble_eq_true rfl⟩ (fun H locs hP hD hS => ?_)
  refine exV (ci := 6) (A0 := A) (As := [.int (m_X5_tryTake (pN z) x1 x2 x3).1]) (rest := []) (W1 := wSp cy xa sa sb tr na ka (pN' (pH' z (hiPrep (pH z) (pN z))) (m_X5_tryTake (pN z) x1 x2 x3).2)) (c_X8_finishAction l hl0 D cy t xa sa sb tr na ka (pN' (pH' z (hiPrep (pH z) (pN z))) (m_X5_tryTake (pN z) x1 x2 x3).2) (m_X5_tryTake (pN z) x1 x2 x3).1) hCF gX8_take_X8_finishAction rfl hd_X8_finishAction ⟨rfl, rfl, Nat.le_of_ble_eq_true rfl, Nat.le_of_ble_eq_true rfl⟩ hG hF hP hD hS hA h_Sp rfl rfl (List.mem_of_getElem? g_Sp_0) rfl hl.1 rfl (Nat.le_of_ble_eq_true rfl) dX8_take_22 ⟨Nat.le_of_ble_eq_true rfl, Nat.le_of_ble_eq_true rfl⟩ (fun h0 ce q9 H locs hP hD hS h1 h2 h3 => ?_) (fun h0 H locs hP hD hS => ?_)
  · exact ex_pass hnx hlocks hP hS h1 h2 h3 (Nat.le_of_ble_eq_true rfl) (Nat.le_of_ble_eq_true rfl) h0 rfl
  · exact ex_iret hx hb hr hlocks hP hS (Nat.le_of_ble_eq_true rfl) (Nat.le_of_ble_eq_true rfl) dX8_take_25 h0 rfl rfl
def m_X8_settle (z : SpT) (x1 : Int32) (x2 : Int32) (x3 : Int32) (x4 : Int32) : Nat × Int32 × SpT := m_X8_finishAction (pN' (pH' z (hiPrep (pH z) (pN z))) (m_X5_trySettle (pN z) x1 x2 x3 x4).2) (m_X5_trySettle (pN z) x1 x2 x3 x4).1
set_option maxHeartbeats 2000000 in
set_option maxRecDepth 20000 in
theorem c_X8_settle (l : Launch) (hl0 : l.stackTraces = false) (D : va_G) (cy : Nat → ClassId) (t : FxA) (xa sa sb tr na : Nat → Nat) (ka : Nat → Nat → Nat) (z : SpT) (x1 : Int32) (x2 : Int32) (x3 : Int32) (x4 : Int32) (hH : hiOK (pH z)) (hN : stOK (pN z)) : EX l D cy t yX8_settle wsX8_settle ({ frames := 7, cells := 1, slots := 6, locals := 125 } : Room) (wSp cy xa sa sb tr na ka z) (wSp cy xa sa sb tr na ka (m_X8_settle z x1 x2 x3 x4).2.2) [.ref (xa 0), .int x1, .int x2, .int x3, .int x4] 1 6 (m_X8_settle z x1 x2 x3 x4).1 (m_X8_settle z x1 x2 x3 x4).2.1 := by
  refine EX.body (by decide) rfl (Nat.le_of_ble_eq_true rfl) ?_
  intro p e s m below meth c hx hb hml hnx hr hts hown hlocks hP hG ls hl A hD hA hS hF
  have hl : lv_has ls 5 [(0, .ref (xa 0)), (1, .int x1), (2, .int x2), (3, .int x3), (4, .int x4)] := hl
  have hCF : CallFix p m c cX8_settle 5 s ([.ref (xa 0), .int x1, .int x2, .int x3, .int x4] : List Value).toArray wsX8_settle RX8 := ⟨hx, hb, hml, hown, hts⟩
  have in_X8 : ∀ w ∈ u_ws RX8 TX8 6, w ∈ wsX8_settle := fun _ h => List.mem_cons_of_mem _ (List.mem_append_left _ (List.mem_append_left _ (List.mem_append_left _ (List.mem_append_left _ (List.mem_append_left _ (List.mem_append_left _ (List.mem_append_left _ (List.mem_append_left _ (List.mem_append_right _ h)))))))))
  have kf := hts (Cond.fieldLink RX8 29 "SparePool" "history" "LSparePool$History;") (List.mem_of_getElem? (i := 1) rfl)
  have kn := hts (Cond.fieldLink RX8 19 "SparePool" "now" "LSparePool$State;") (List.mem_of_getElem? (i := 2) rfl)
  have k1a := hts (Cond.initialized RX2) (List.mem_of_getElem? (i := 4) rfl)
  have k2a := hts (Cond.instanceMethod yX2_prepare) (List.mem_of_getElem? (i := 3) rfl)
  have k3a := hts (Cond.selects RX2 yX2_prepare yX2_prepare) (List.mem_of_getElem? (i := 5) rfl)
  have k1b := hts (Cond.initialized RX5) (List.mem_of_getElem? (i := 11) rfl)
  have k2b := hts (Cond.instanceMethod yX5_trySettle) (List.mem_of_getElem? (i := 52) rfl)
  have k3b := hts (Cond.selects RX5 yX5_trySettle yX5_trySettle) (List.mem_of_getElem? (i := 53) rfl)
  refine lv_aload_n hx hb dX8_settle_0 rfl (lv_at hl 0 rfl) ?_
  refine va_get (D := D) (ci := 6) (v := .ref (xa 5)) (C := RX8) (T := TX8) (N := 6) hx hb hts in_X8 hown hG.1 hP 0 g_Sp_0 rfl 3 (by decide) kf (fun _ h9 => h9) rfl dX8_settle_1 ?_
  refine lv_aload_n hx hb dX8_settle_4 rfl (lv_at hl 0 rfl) ?_
  refine va_get (D := D) (ci := 6) (v := .ref (na 0)) (C := RX8) (T := TX8) (N := 6) hx hb hts in_X8 hown hG.1 hP 0 g_Sp_0 rfl 1 (by decide) kn (fun _ h9 => h9) rfl dX8_settle_5 ?_
  refine vwVN (ci := 2) (A0 := A) (As := [.ref (na 0)]) (rest := []) (W1 := wSp cy xa sa sb tr na ka z) (W2 := wSp cy xa sa sb tr na ka (pH' z (hiPrep (pH z) (pN z)))) ((c_X2_prepare l D cy (xa 5) (xa 6) ka na (pH z) (pN z) hH).ctx q_prep q_prep) hCF gX8_settle_X2_prepare_n223 (nw_X8_223 hG.2) k1a k2a k3a rfl hd_X2_prepare ⟨rfl, rfl, Nat.le_of_ble_eq_true rfl, Nat.le_of_ble_eq_true rfl⟩ hG hP hD hS hA h_Sp rfl rfl (List.mem_of_getElem? g_Sp_65) rfl hl.1 rfl (Nat.le_of_ble_eq_true rfl) dX8_settle_8 ⟨Nat.le_of_ble_eq_true rfl, Nat.le_of_ble_eq_true rfl⟩ (fun H locs hP hD hS => ?_)
  refine lv_aload_n hx hb dX8_settle_11 rfl (lv_at hl 0 rfl) ?_
  refine lv_aload_n hx hb dX8_settle_12 rfl (lv_at hl 0 rfl) ?_
  refine va_get (D := D) (ci := 6) (v := .ref (na 0)) (C := RX8) (T := TX8) (N := 6) hx hb hts in_X8 hown hG.1 hP 0 g_Sp_0 rfl 1 (by decide) kn (fun _ h9 => h9) rfl dX8_settle_13 ?_
  refine lv_iload_n hx hb dX8_settle_16 rfl (lv_at hl 1 rfl) ?_
  refine lv_iload_n hx hb dX8_settle_17 rfl (lv_at hl 2 rfl) ?_
  refine lv_iload_n hx hb dX8_settle_18 rfl (lv_at hl 3 rfl) ?_
  refine lv_iload hx hb dX8_settle_19 (lv_at hl 4 rfl) ?_
  refine mwVN (ci := 3) (A0 := A) (As := [.int x1, .int x2, .int x3, .int x4]) (rest := [.ref (xa 0)]) (W1 := wSp cy xa sa sb tr na ka (pH' z (hiPrep (pH z) (pN z)))) (W2 := wSp cy xa sa sb tr na ka (pN' (pH' z (hiPrep (pH z) (pN z))) (m_X5_trySettle (pN z) x1 x2 x3 x4).2)) ((c_X5_trySettle l D cy na (pN z) x1 x2 x3 x4 hN).ctx q_N q_N) hCF gX8_settle_X5_trySettle_n236 (nw_X8_236 hG.2) k1b k2b k3b rfl hd_X5_trySettle ⟨rfl, rfl, Nat.le_of_ble_eq_true rfl, Nat.le_of_ble_eq_true rfl⟩ hG hP hD hS hA h_Sp rfl rfl (List.mem_of_getElem? g_Sp_50) rfl hl.1 rfl (Nat.le_of_ble_eq_true rfl) dX8_settle_21 ⟨Nat.le_of_ble_eq_true rfl, Nat.le_of_ble_eq_true rfl⟩ (fun H locs hP hD hS => ?_)
  refine exV (ci := 6) (A0 := A) (As := [.int (m_X5_trySettle (pN z) x1 x2 x3 x4).1]) (rest := []) (W1 := wSp cy xa sa sb tr na ka (pN' (pH' z (hiPrep (pH z) (pN z))) (m_X5_trySettle (pN z) x1 x2 x3 x4).2)) (c_X8_finishAction l hl0 D cy t xa sa sb tr na ka (pN' (pH' z (hiPrep (pH z) (pN z))) (m_X5_trySettle (pN z) x1 x2 x3 x4).2) (m_X5_trySettle (pN z) x1 x2 x3 x4).1) hCF gX8_settle_X8_finishAction rfl hd_X8_finishAction ⟨rfl, rfl, Nat.le_of_ble_eq_true rfl, Nat.le_of_ble_eq_true rfl⟩ hG hF hP hD hS hA h_Sp rfl rfl (List.mem_of_getElem? g_Sp_0) rfl hl.1 rfl (Nat.le_of_ble_eq_true rfl) dX8_settle_24 ⟨Nat.le_of_ble_eq_true rfl, Nat.le_of_ble_eq_true rfl⟩ (fun h0 ce q9 H locs hP hD hS h1 h2 h3 => ?_) (fun h0 H locs hP hD hS => ?_)
  · exact ex_pass hnx hlocks hP hS h1 h2 h3 (Nat.le_of_ble_eq_true rfl) (Nat.le_of_ble_eq_true rfl) h0 rfl
  · exact ex_iret hx hb hr hlocks hP hS (Nat.le_of_ble_eq_true rfl) (Nat.le_of_ble_eq_true rfl) dX8_settle_27 h0 rfl rfl
def m_X8_buy (z : SpT) (x1 : Int32) (x2 : Int32) : Nat × Int32 × SpT := m_X8_finishAction (pN' (pH' z (hiPrep (pH z) (pN z))) (m_X5_tryBuy (pN z) x1 x2).2) (m_X5_tryBuy (pN z) x1 x2).1
set_option maxHeartbeats 2000000 in
set_option maxRecDepth 20000 in
theorem c_X8_buy (l : Launch) (hl0 : l.stackTraces = false) (D : va_G) (cy : Nat → ClassId) (t : FxA) (xa sa sb tr na : Nat → Nat) (ka : Nat → Nat → Nat) (z : SpT) (x1 : Int32) (x2 : Int32) (hH : hiOK (pH z)) (hN : stOK (pN z)) : EX l D cy t yX8_buy wsX8_buy ({ frames := 7, cells := 1, slots := 6, locals := 125 } : Room) (wSp cy xa sa sb tr na ka z) (wSp cy xa sa sb tr na ka (m_X8_buy z x1 x2).2.2) [.ref (xa 0), .int x1, .int x2] 1 6 (m_X8_buy z x1 x2).1 (m_X8_buy z x1 x2).2.1 := by
  refine EX.body (by decide) rfl (Nat.le_of_ble_eq_true rfl) ?_
  intro p e s m below meth c hx hb hml hnx hr hts hown hlocks hP hG ls hl A hD hA hS hF
  have hl : lv_has ls 3 [(0, .ref (xa 0)), (1, .int x1), (2, .int x2)] := hl
  have hCF : CallFix p m c cX8_buy 3 s ([.ref (xa 0), .int x1, .int x2] : List Value).toArray wsX8_buy RX8 := ⟨hx, hb, hml, hown, hts⟩
  have in_X8 : ∀ w ∈ u_ws RX8 TX8 6, w ∈ wsX8_buy := fun _ h => List.mem_cons_of_mem _ (List.mem_append_left _ (List.mem_append_left _ (List.mem_append_left _ (List.mem_append_left _ (List.mem_append_left _ (List.mem_append_left _ (List.mem_append_left _ (List.mem_append_left _ (List.mem_append_right _ h)))))))))
  have kf := hts (Cond.fieldLink RX8 29 "SparePool" "history" "LSparePool$History;") (List.mem_of_getElem? (i := 1) rfl)
  have kn := hts (Cond.fieldLink RX8 19 "SparePool" "now" "LSparePool$State;") (List.mem_of_getElem? (i := 2) rfl)
  have k1a := hts (Cond.initialized RX2) (List.mem_of_getElem? (i := 4) rfl)
  have k2a := hts (Cond.instanceMethod yX2_prepare) (List.mem_of_getElem? (i := 3) rfl)
  have k3a := hts (Cond.selects RX2 yX2_prepare yX2_prepare) (List.mem_of_getElem? (i := 5) rfl)
  have k1b := hts (Cond.initialized RX5) (List.mem_of_getElem? (i := 11) rfl)
  have k2b := hts (Cond.instanceMethod yX5_tryBuy) (List.mem_of_getElem? (i := 52) rfl)
  have k3b := hts (Cond.selects RX5 yX5_tryBuy yX5_tryBuy) (List.mem_of_getElem? (i := 53) rfl)
  refine lv_aload_n hx hb dX8_buy_0 rfl (lv_at hl 0 rfl) ?_
  refine va_get (D := D) (ci := 6) (v := .ref (xa 5)) (C := RX8) (T := TX8) (N := 6) hx hb hts in_X8 hown hG.1 hP 0 g_Sp_0 rfl 3 (by decide) kf (fun _ h9 => h9) rfl dX8_buy_1 ?_
  refine lv_aload_n hx hb dX8_buy_4 rfl (lv_at hl 0 rfl) ?_
  refine va_get (D := D) (ci := 6) (v := .ref (na 0)) (C := RX8) (T := TX8) (N := 6) hx hb hts in_X8 hown hG.1 hP 0 g_Sp_0 rfl 1 (by decide) kn (fun _ h9 => h9) rfl dX8_buy_5 ?_
  refine vwVN (ci := 2) (A0 := A) (As := [.ref (na 0)]) (rest := []) (W1 := wSp cy xa sa sb tr na ka z) (W2 := wSp cy xa sa sb tr na ka (pH' z (hiPrep (pH z) (pN z)))) ((c_X2_prepare l D cy (xa 5) (xa 6) ka na (pH z) (pN z) hH).ctx q_prep q_prep) hCF gX8_buy_X2_prepare_n223 (nw_X8_223 hG.2) k1a k2a k3a rfl hd_X2_prepare ⟨rfl, rfl, Nat.le_of_ble_eq_true rfl, Nat.le_of_ble_eq_true rfl⟩ hG hP hD hS hA h_Sp rfl rfl (List.mem_of_getElem? g_Sp_65) rfl hl.1 rfl (Nat.le_of_ble_eq_true rfl) dX8_buy_8 ⟨Nat.le_of_ble_eq_true rfl, Nat.le_of_ble_eq_true rfl⟩ (fun H locs hP hD hS => ?_)
  refine lv_aload_n hx hb dX8_buy_11 rfl (lv_at hl 0 rfl) ?_
  refine lv_aload_n hx hb dX8_buy_12 rfl (lv_at hl 0 rfl) ?_
  refine va_get (D := D) (ci := 6) (v := .ref (na 0)) (C := RX8) (T := TX8) (N := 6) hx hb hts in_X8 hown hG.1 hP 0 g_Sp_0 rfl 1 (by decide) kn (fun _ h9 => h9) rfl dX8_buy_13 ?_
  refine lv_iload_n hx hb dX8_buy_16 rfl (lv_at hl 1 rfl) ?_
  refine lv_iload_n hx hb dX8_buy_17 rfl (lv_at hl 2 rfl) ?_
  refine mwVN (ci := 3) (A0 := A) (As := [.int x1, .int x2]) (rest := [.ref (xa 0)]) (W1 := wSp cy xa sa sb tr na ka (pH' z (hiPrep (pH z) (pN z)))) (W2 := wSp cy xa sa sb tr na ka (pN' (pH' z (hiPrep (pH z) (pN z))) (m_X5_tryBuy (pN z) x1 x2).2)) ((c_X5_tryBuy l D cy na (pN z) x1 x2 hN).ctx q_N q_N) hCF gX8_buy_X5_tryBuy_n239 (nw_X8_239 hG.2) k1b k2b k3b rfl hd_X5_tryBuy ⟨rfl, rfl, Nat.le_of_ble_eq_true rfl, Nat.le_of_ble_eq_true rfl⟩ hG hP hD hS hA h_Sp rfl rfl (List.mem_of_getElem? g_Sp_50) rfl hl.1 rfl (Nat.le_of_ble_eq_true rfl) dX8_buy_18 ⟨Nat.le_of_ble_eq_true rfl, Nat.le_of_ble_eq_true rfl⟩ (fun H locs hP hD hS => ?_)
  refine exV (ci := 6) (A0 := A) (As := [.int (m_X5_tryBuy (pN z) x1 x2).1]) (rest := []) (W1 := wSp cy xa sa sb tr na ka (pN' (pH' z (hiPrep (pH z) (pN z))) (m_X5_tryBuy (pN z) x1 x2).2)) (c_X8_finishAction l hl0 D cy t xa sa sb tr na ka (pN' (pH' z (hiPrep (pH z) (pN z))) (m_X5_tryBuy (pN z) x1 x2).2) (m_X5_tryBuy (pN z) x1 x2).1) hCF gX8_buy_X8_finishAction rfl hd_X8_finishAction ⟨rfl, rfl, Nat.le_of_ble_eq_true rfl, Nat.le_of_ble_eq_true rfl⟩ hG hF hP hD hS hA h_Sp rfl rfl (List.mem_of_getElem? g_Sp_0) rfl hl.1 rfl (Nat.le_of_ble_eq_true rfl) dX8_buy_21 ⟨Nat.le_of_ble_eq_true rfl, Nat.le_of_ble_eq_true rfl⟩ (fun h0 ce q9 H locs hP hD hS h1 h2 h3 => ?_) (fun h0 H locs hP hD hS => ?_)
  · exact ex_pass hnx hlocks hP hS h1 h2 h3 (Nat.le_of_ble_eq_true rfl) (Nat.le_of_ble_eq_true rfl) h0 rfl
  · exact ex_iret hx hb hr hlocks hP hS (Nat.le_of_ble_eq_true rfl) (Nat.le_of_ble_eq_true rfl) dX8_buy_24 h0 rfl rfl
def m_X8_days (z : SpT) (x1 : Int32) : Nat × Int32 × SpT := m_X8_finishAction (pN' (pH' z (hiPrep (pH z) (pN z))) (m_X5_tryDays (pN z) x1).2) (m_X5_tryDays (pN z) x1).1
set_option maxHeartbeats 2000000 in
set_option maxRecDepth 20000 in
theorem c_X8_days (l : Launch) (hl0 : l.stackTraces = false) (D : va_G) (cy : Nat → ClassId) (t : FxA) (xa sa sb tr na : Nat → Nat) (ka : Nat → Nat → Nat) (z : SpT) (x1 : Int32) (hH : hiOK (pH z)) (hN : stOK (pN z)) : EX l D cy t yX8_days wsX8_days ({ frames := 7, cells := 1, slots := 6, locals := 125 } : Room) (wSp cy xa sa sb tr na ka z) (wSp cy xa sa sb tr na ka (m_X8_days z x1).2.2) [.ref (xa 0), .int x1] 1 6 (m_X8_days z x1).1 (m_X8_days z x1).2.1 := by
  refine EX.body (by decide) rfl (Nat.le_of_ble_eq_true rfl) ?_
  intro p e s m below meth c hx hb hml hnx hr hts hown hlocks hP hG ls hl A hD hA hS hF
  have hl : lv_has ls 2 [(0, .ref (xa 0)), (1, .int x1)] := hl
  have hCF : CallFix p m c cX8_days 2 s ([.ref (xa 0), .int x1] : List Value).toArray wsX8_days RX8 := ⟨hx, hb, hml, hown, hts⟩
  have in_X8 : ∀ w ∈ u_ws RX8 TX8 6, w ∈ wsX8_days := fun _ h => List.mem_cons_of_mem _ (List.mem_append_left _ (List.mem_append_left _ (List.mem_append_left _ (List.mem_append_left _ (List.mem_append_left _ (List.mem_append_left _ (List.mem_append_left _ (List.mem_append_left _ (List.mem_append_right _ h)))))))))
  have kf := hts (Cond.fieldLink RX8 29 "SparePool" "history" "LSparePool$History;") (List.mem_of_getElem? (i := 1) rfl)
  have kn := hts (Cond.fieldLink RX8 19 "SparePool" "now" "LSparePool$State;") (List.mem_of_getElem? (i := 2) rfl)
  have k1a := hts (Cond.initialized RX2) (List.mem_of_getElem? (i := 4) rfl)
  have k2a := hts (Cond.instanceMethod yX2_prepare) (List.mem_of_getElem? (i := 3) rfl)
  have k3a := hts (Cond.selects RX2 yX2_prepare yX2_prepare) (List.mem_of_getElem? (i := 5) rfl)
  have k1b := hts (Cond.initialized RX5) (List.mem_of_getElem? (i := 11) rfl)
  have k2b := hts (Cond.instanceMethod yX5_tryDays) (List.mem_of_getElem? (i := 52) rfl)
  have k3b := hts (Cond.selects RX5 yX5_tryDays yX5_tryDays) (List.mem_of_getElem? (i := 53) rfl)
  refine lv_aload_n hx hb dX8_days_0 rfl (lv_at hl 0 rfl) ?_
  refine va_get (D := D) (ci := 6) (v := .ref (xa 5)) (C := RX8) (T := TX8) (N := 6) hx hb hts in_X8 hown hG.1 hP 0 g_Sp_0 rfl 3 (by decide) kf (fun _ h9 => h9) rfl dX8_days_1 ?_
  refine lv_aload_n hx hb dX8_days_4 rfl (lv_at hl 0 rfl) ?_
  refine va_get (D := D) (ci := 6) (v := .ref (na 0)) (C := RX8) (T := TX8) (N := 6) hx hb hts in_X8 hown hG.1 hP 0 g_Sp_0 rfl 1 (by decide) kn (fun _ h9 => h9) rfl dX8_days_5 ?_
  refine vwVN (ci := 2) (A0 := A) (As := [.ref (na 0)]) (rest := []) (W1 := wSp cy xa sa sb tr na ka z) (W2 := wSp cy xa sa sb tr na ka (pH' z (hiPrep (pH z) (pN z)))) ((c_X2_prepare l D cy (xa 5) (xa 6) ka na (pH z) (pN z) hH).ctx q_prep q_prep) hCF gX8_days_X2_prepare_n223 (nw_X8_223 hG.2) k1a k2a k3a rfl hd_X2_prepare ⟨rfl, rfl, Nat.le_of_ble_eq_true rfl, Nat.le_of_ble_eq_true rfl⟩ hG hP hD hS hA h_Sp rfl rfl (List.mem_of_getElem? g_Sp_65) rfl hl.1 rfl (Nat.le_of_ble_eq_true rfl) dX8_days_8 ⟨Nat.le_of_ble_eq_true rfl, Nat.le_of_ble_eq_true rfl⟩ (fun H locs hP hD hS => ?_)
  refine lv_aload_n hx hb dX8_days_11 rfl (lv_at hl 0 rfl) ?_
  refine lv_aload_n hx hb dX8_days_12 rfl (lv_at hl 0 rfl) ?_
  refine va_get (D := D) (ci := 6) (v := .ref (na 0)) (C := RX8) (T := TX8) (N := 6) hx hb hts in_X8 hown hG.1 hP 0 g_Sp_0 rfl 1 (by decide) kn (fun _ h9 => h9) rfl dX8_days_13 ?_
  refine lv_iload_n hx hb dX8_days_16 rfl (lv_at hl 1 rfl) ?_
  refine mwVN (ci := 3) (A0 := A) (As := [.int x1]) (rest := [.ref (xa 0)]) (W1 := wSp cy xa sa sb tr na ka (pH' z (hiPrep (pH z) (pN z)))) (W2 := wSp cy xa sa sb tr na ka (pN' (pH' z (hiPrep (pH z) (pN z))) (m_X5_tryDays (pN z) x1).2)) ((c_X5_tryDays l D cy na (pN z) x1).ctx q_N q_N) hCF gX8_days_X5_tryDays_n103 (nw_X8_103 hG.2) k1b k2b k3b rfl hd_X5_tryDays ⟨rfl, rfl, Nat.le_of_ble_eq_true rfl, Nat.le_of_ble_eq_true rfl⟩ hG hP hD hS hA h_Sp rfl rfl (List.mem_of_getElem? g_Sp_50) rfl hl.1 rfl (Nat.le_of_ble_eq_true rfl) dX8_days_17 ⟨Nat.le_of_ble_eq_true rfl, Nat.le_of_ble_eq_true rfl⟩ (fun H locs hP hD hS => ?_)
  refine exV (ci := 6) (A0 := A) (As := [.int (m_X5_tryDays (pN z) x1).1]) (rest := []) (W1 := wSp cy xa sa sb tr na ka (pN' (pH' z (hiPrep (pH z) (pN z))) (m_X5_tryDays (pN z) x1).2)) (c_X8_finishAction l hl0 D cy t xa sa sb tr na ka (pN' (pH' z (hiPrep (pH z) (pN z))) (m_X5_tryDays (pN z) x1).2) (m_X5_tryDays (pN z) x1).1) hCF gX8_days_X8_finishAction rfl hd_X8_finishAction ⟨rfl, rfl, Nat.le_of_ble_eq_true rfl, Nat.le_of_ble_eq_true rfl⟩ hG hF hP hD hS hA h_Sp rfl rfl (List.mem_of_getElem? g_Sp_0) rfl hl.1 rfl (Nat.le_of_ble_eq_true rfl) dX8_days_20 ⟨Nat.le_of_ble_eq_true rfl, Nat.le_of_ble_eq_true rfl⟩ (fun h0 ce q9 H locs hP hD hS h1 h2 h3 => ?_) (fun h0 H locs hP hD hS => ?_)
  · exact ex_pass hnx hlocks hP hS h1 h2 h3 (Nat.le_of_ble_eq_true rfl) (Nat.le_of_ble_eq_true rfl) h0 rfl
  · exact ex_iret hx hb hr hlocks hP hS (Nat.le_of_ble_eq_true rfl) (Nat.le_of_ble_eq_true rfl) dX8_days_23 h0 rfl rfl
def m_X8_set (z : SpT) (x1 : Int32) (x2 : Int32) : Nat × Int32 × SpT := m_X8_finishAction (pN' (pH' z (hiPrep (pH z) (pN z))) (m_X5_trySet (pN z) x1 x2).2) (m_X5_trySet (pN z) x1 x2).1
set_option maxHeartbeats 2000000 in
set_option maxRecDepth 20000 in
theorem c_X8_set (l : Launch) (hl0 : l.stackTraces = false) (D : va_G) (cy : Nat → ClassId) (t : FxA) (xa sa sb tr na : Nat → Nat) (ka : Nat → Nat → Nat) (z : SpT) (x1 : Int32) (x2 : Int32) (hH : hiOK (pH z)) (hN : stOK (pN z)) : EX l D cy t yX8_set wsX8_set ({ frames := 7, cells := 1, slots := 6, locals := 125 } : Room) (wSp cy xa sa sb tr na ka z) (wSp cy xa sa sb tr na ka (m_X8_set z x1 x2).2.2) [.ref (xa 0), .int x1, .int x2] 1 6 (m_X8_set z x1 x2).1 (m_X8_set z x1 x2).2.1 := by
  refine EX.body (by decide) rfl (Nat.le_of_ble_eq_true rfl) ?_
  intro p e s m below meth c hx hb hml hnx hr hts hown hlocks hP hG ls hl A hD hA hS hF
  have hl : lv_has ls 3 [(0, .ref (xa 0)), (1, .int x1), (2, .int x2)] := hl
  have hCF : CallFix p m c cX8_set 3 s ([.ref (xa 0), .int x1, .int x2] : List Value).toArray wsX8_set RX8 := ⟨hx, hb, hml, hown, hts⟩
  have in_X8 : ∀ w ∈ u_ws RX8 TX8 6, w ∈ wsX8_set := fun _ h => List.mem_cons_of_mem _ (List.mem_append_left _ (List.mem_append_left _ (List.mem_append_left _ (List.mem_append_left _ (List.mem_append_left _ (List.mem_append_left _ (List.mem_append_left _ (List.mem_append_left _ (List.mem_append_right _ h)))))))))
  have kf := hts (Cond.fieldLink RX8 29 "SparePool" "history" "LSparePool$History;") (List.mem_of_getElem? (i := 1) rfl)
  have kn := hts (Cond.fieldLink RX8 19 "SparePool" "now" "LSparePool$State;") (List.mem_of_getElem? (i := 2) rfl)
  have k1a := hts (Cond.initialized RX2) (List.mem_of_getElem? (i := 4) rfl)
  have k2a := hts (Cond.instanceMethod yX2_prepare) (List.mem_of_getElem? (i := 3) rfl)
  have k3a := hts (Cond.selects RX2 yX2_prepare yX2_prepare) (List.mem_of_getElem? (i := 5) rfl)
  have k1b := hts (Cond.initialized RX5) (List.mem_of_getElem? (i := 11) rfl)
  have k2b := hts (Cond.instanceMethod yX5_trySet) (List.mem_of_getElem? (i := 52) rfl)
  have k3b := hts (Cond.selects RX5 yX5_trySet yX5_trySet) (List.mem_of_getElem? (i := 53) rfl)
  refine lv_aload_n hx hb dX8_set_0 rfl (lv_at hl 0 rfl) ?_
  refine va_get (D := D) (ci := 6) (v := .ref (xa 5)) (C := RX8) (T := TX8) (N := 6) hx hb hts in_X8 hown hG.1 hP 0 g_Sp_0 rfl 3 (by decide) kf (fun _ h9 => h9) rfl dX8_set_1 ?_
  refine lv_aload_n hx hb dX8_set_4 rfl (lv_at hl 0 rfl) ?_
  refine va_get (D := D) (ci := 6) (v := .ref (na 0)) (C := RX8) (T := TX8) (N := 6) hx hb hts in_X8 hown hG.1 hP 0 g_Sp_0 rfl 1 (by decide) kn (fun _ h9 => h9) rfl dX8_set_5 ?_
  refine vwVN (ci := 2) (A0 := A) (As := [.ref (na 0)]) (rest := []) (W1 := wSp cy xa sa sb tr na ka z) (W2 := wSp cy xa sa sb tr na ka (pH' z (hiPrep (pH z) (pN z)))) ((c_X2_prepare l D cy (xa 5) (xa 6) ka na (pH z) (pN z) hH).ctx q_prep q_prep) hCF gX8_set_X2_prepare_n223 (nw_X8_223 hG.2) k1a k2a k3a rfl hd_X2_prepare ⟨rfl, rfl, Nat.le_of_ble_eq_true rfl, Nat.le_of_ble_eq_true rfl⟩ hG hP hD hS hA h_Sp rfl rfl (List.mem_of_getElem? g_Sp_65) rfl hl.1 rfl (Nat.le_of_ble_eq_true rfl) dX8_set_8 ⟨Nat.le_of_ble_eq_true rfl, Nat.le_of_ble_eq_true rfl⟩ (fun H locs hP hD hS => ?_)
  refine lv_aload_n hx hb dX8_set_11 rfl (lv_at hl 0 rfl) ?_
  refine lv_aload_n hx hb dX8_set_12 rfl (lv_at hl 0 rfl) ?_
  refine va_get (D := D) (ci := 6) (v := .ref (na 0)) (C := RX8) (T := TX8) (N := 6) hx hb hts in_X8 hown hG.1 hP 0 g_Sp_0 rfl 1 (by decide) kn (fun _ h9 => h9) rfl dX8_set_13 ?_
  refine lv_iload_n hx hb dX8_set_16 rfl (lv_at hl 1 rfl) ?_
  refine lv_iload_n hx hb dX8_set_17 rfl (lv_at hl 2 rfl) ?_
  refine fwVN (ci := 3) (A0 := A) (As := [.int x1, .int x2]) (rest := [.ref (xa 0)]) (W1 := wSp cy xa sa sb tr na ka (pH' z (hiPrep (pH z) (pN z)))) (W2 := wSp cy xa sa sb tr na ka (pN' (pH' z (hiPrep (pH z) (pN z))) (m_X5_trySet (pN z) x1 x2).2)) ((c_X5_trySet l D cy t na (pN z) x1 x2).ctx q_N q_N) hCF gX8_set_X5_trySet_n242 (nw_X8_242 hG.2) k1b k2b k3b rfl hd_X5_trySet ⟨rfl, rfl, Nat.le_of_ble_eq_true rfl, Nat.le_of_ble_eq_true rfl⟩ hG hF hP hD hS hA h_Sp rfl rfl (List.mem_of_getElem? g_Sp_50) rfl hl.1 rfl (Nat.le_of_ble_eq_true rfl) dX8_set_18 ⟨Nat.le_of_ble_eq_true rfl, Nat.le_of_ble_eq_true rfl⟩ (fun H locs hP hD hS => ?_)
  refine exV (ci := 6) (A0 := A) (As := [.int (m_X5_trySet (pN z) x1 x2).1]) (rest := []) (W1 := wSp cy xa sa sb tr na ka (pN' (pH' z (hiPrep (pH z) (pN z))) (m_X5_trySet (pN z) x1 x2).2)) (c_X8_finishAction l hl0 D cy t xa sa sb tr na ka (pN' (pH' z (hiPrep (pH z) (pN z))) (m_X5_trySet (pN z) x1 x2).2) (m_X5_trySet (pN z) x1 x2).1) hCF gX8_set_X8_finishAction rfl hd_X8_finishAction ⟨rfl, rfl, Nat.le_of_ble_eq_true rfl, Nat.le_of_ble_eq_true rfl⟩ hG hF hP hD hS hA h_Sp rfl rfl (List.mem_of_getElem? g_Sp_0) rfl hl.1 rfl (Nat.le_of_ble_eq_true rfl) dX8_set_21 ⟨Nat.le_of_ble_eq_true rfl, Nat.le_of_ble_eq_true rfl⟩ (fun h0 ce q9 H locs hP hD hS h1 h2 h3 => ?_) (fun h0 H locs hP hD hS => ?_)
  · exact ex_pass hnx hlocks hP hS h1 h2 h3 (Nat.le_of_ble_eq_true rfl) (Nat.le_of_ble_eq_true rfl) h0 rfl
  · exact ex_iret hx hb hr hlocks hP hS (Nat.le_of_ble_eq_true rfl) (Nat.le_of_ble_eq_true rfl) dX8_set_24 h0 rfl rfl
