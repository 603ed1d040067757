def m_X8_undo (z : SpT) : Nat × Int32 × SpT := if hC (pH z) = 0 then (3, 0, z) else (0, hC (hiBack (pH z) (pN z)).2, pH' (pN' z (hiBack (pH z) (pN z)).1) (hiBack (pH z) (pN z)).2)
set_option maxHeartbeats 2000000 in
set_option maxRecDepth 20000 in
theorem c_X8_undo (l : Launch) (hl0 : l.stackTraces = false) (D : va_G) (cy : Nat → ClassId) (t : FxA) (xa sa sb tr na : Nat → Nat) (ka : Nat → Nat → Nat) (z : SpT) (hH : hiOK (pH z)) : EX l D cy t yX8_undo wsX8_undo ({ frames := 6, cells := 1, slots := 6, locals := 125 } : Room) (wSp cy xa sa sb tr na ka z) (wSp cy xa sa sb tr na ka (m_X8_undo z).2.2) [.ref (xa 0)] 1 6 (m_X8_undo z).1 (m_X8_undo z).2.1 := by
  refine EX.body (by decide) rfl (Nat.le_of_ble_eq_true rfl) ?_
  intro p e s m below meth c hx hb hml hnx hr hts hown hlocks hP hG ls hl A hD hA hS hF
  have hl : lv_has ls 1 [(0, .ref (xa 0))] := hl
  have hCF : CallFix p m c cX8_undo 1 s ([.ref (xa 0)] : List Value).toArray wsX8_undo RX8 := ⟨hx, hb, hml, hown, hts⟩
  have in_X8 : ∀ w ∈ u_ws RX8 TX8 6, w ∈ wsX8_undo := fun _ h => List.mem_cons_of_mem _ (List.mem_append_left _ (List.mem_append_left _ (List.mem_append_left _ (List.mem_append_left _ (List.mem_append_left _ (List.mem_append_left _ (List.mem_append_right _ h)))))))
  have in_X2 : ∀ w ∈ u_ws RX2 TX2 3, w ∈ wsX8_undo := fun _ h => List.mem_cons_of_mem _ (List.mem_append_left _ (List.mem_append_left _ (List.mem_append_left _ (List.mem_append_left _ (List.mem_append_left _ (List.mem_append_right _ h))))))
  have kf := hts (Cond.fieldLink RX8 29 "SparePool" "history" "LSparePool$History;") (List.mem_of_getElem? (i := 3) rfl)
  have kn := hts (Cond.fieldLink RX8 19 "SparePool" "now" "LSparePool$State;") (List.mem_of_getElem? (i := 4) rfl)
  have k1 := hts (Cond.initialized RX2) (List.mem_of_getElem? (i := 6) rfl)
  have k2 := hts (Cond.instanceMethod yX2_takeBack) (List.mem_of_getElem? (i := 5) rfl)
  have k3 := hts (Cond.selects RX2 yX2_takeBack yX2_takeBack) (List.mem_of_getElem? (i := 7) rfl)
  refine lv_aload_n hx hb dX8_undo_0 rfl (lv_at hl 0 rfl) ?_
  refine va_get (D := D) (ci := 6) (v := .ref (xa 5)) (C := RX8) (T := TX8) (N := 6) hx hb hts in_X8 hown hG.1 hP 0 g_Sp_0 rfl 3 (by decide) kf (fun _ h9 => h9) rfl dX8_undo_1 ?_
  refine va_getN (D := D) (ci := 2) (v := .int (hC (pH z))) (C := RX2) (T := TX2) (N := 3) hx hb hts in_X2 hown hG.1 hP 65 g_Sp_65 rfl 2 (by decide) (va_Nw.use rfl (nw_X8_245 hG.2)) (fun _ h9 => h9) rfl dX8_undo_4 ?_
  refine lv_if_ne (tgt := 18) hx hb dX8_undo_7 (by decide) (fun c_1 => ?_) (fun c_1 => ?_)
  · refine lv_aload_n hx hb dX8_undo_18 rfl (lv_at hl 0 rfl) ?_
    refine va_get (D := D) (ci := 6) (v := .ref (xa 5)) (C := RX8) (T := TX8) (N := 6) hx hb hts in_X8 hown hG.1 hP 0 g_Sp_0 rfl 3 (by decide) kf (fun _ h9 => h9) rfl dX8_undo_19 ?_
    refine lv_aload_n hx hb dX8_undo_22 rfl (lv_at hl 0 rfl) ?_
    refine va_get (D := D) (ci := 6) (v := .ref (na 0)) (C := RX8) (T := TX8) (N := 6) hx hb hts in_X8 hown hG.1 hP 0 g_Sp_0 rfl 1 (by decide) kn (fun _ h9 => h9) rfl dX8_undo_23 ?_
    refine vwVN (ci := 2) (A0 := A) (As := [.ref (na 0)]) (rest := []) (W1 := wSp cy xa sa sb tr na ka z) (W2 := wSp cy xa sa sb tr na ka (pH' (pN' z (hiBack (pH z) (pN z)).1) (hiBack (pH z) (pN z)).2)) ((c_X2_takeBack l D cy (xa 5) (xa 6) ka na (pH z) (pN z) hH).ctx q_prep q_prep) hCF gX8_undo_X2_takeBack_n246 (nw_X8_246 hG.2) k1 k2 k3 rfl hd_X2_takeBack ⟨rfl, rfl, Nat.le_of_ble_eq_true rfl, Nat.le_of_ble_eq_true rfl⟩ hG hP hD hS hA h_Sp rfl rfl (List.mem_of_getElem? g_Sp_65) rfl hl.1 rfl (Nat.le_of_ble_eq_true rfl) dX8_undo_26 ⟨Nat.le_of_ble_eq_true rfl, Nat.le_of_ble_eq_true rfl⟩ (fun H locs hP hD hS => ?_)
    refine lv_aload_n hx hb dX8_undo_29 rfl (lv_at hl 0 rfl) ?_
    refine va_get (D := D) (ci := 6) (v := .ref (xa 5)) (C := RX8) (T := TX8) (N := 6) hx hb hts in_X8 hown hG.1 hP 0 g_Sp_0 rfl 3 (by decide) kf (fun _ h9 => h9) rfl dX8_undo_30 ?_
    refine va_getN (D := D) (ci := 2) (v := .int (hC (pH (pH' (pN' z (hiBack (pH z) (pN z)).1) (hiBack (pH z) (pN z)).2)))) (C := RX2) (T := TX2) (N := 3) hx hb hts in_X2 hown hG.1 hP 65 g_Sp_65 rfl 2 (by decide) (va_Nw.use rfl (nw_X8_245 hG.2)) (fun _ h9 => h9) rfl dX8_undo_33 ?_
    exact ex_iret hx hb hr hlocks hP hS (Nat.le_of_ble_eq_true rfl) (Nat.le_of_ble_eq_true rfl) dX8_undo_36 (by rw [m_X8_undo, if_neg c_1]) (by rw [m_X8_undo, if_neg c_1]; rfl) (by rw [m_X8_undo, if_neg c_1])
  · exact ex_thr (i := 3) (ik := 48) (ic := 50) hx hb hl0 hown (hts (Cond.classLink RX8 48 "java/lang/IllegalStateException") (List.mem_of_getElem? (i := 1) rfl)) (hts (Cond.initialized "java/lang/IllegalStateException") (List.mem_of_getElem? (i := 2) rfl)) (by decide) (fun w h => hts w (List.mem_cons_of_mem _ (List.mem_append_right _ h))) (by decide +kernel) (by decide +kernel) hF hS hP (hl.1.trans hml.symm) dX8_undo_10 dX8_undo_13 dX8_undo_14 dX8_undo_17 hnx (Nat.le_of_ble_eq_true rfl) (Nat.le_of_ble_eq_true rfl) (Nat.le_of_ble_eq_true rfl) (Nat.le_of_ble_eq_true rfl) hlocks (Nat.le_of_ble_eq_true rfl) (Nat.le_of_ble_eq_true rfl) (by rw [m_X8_undo, if_pos c_1]) (by decide) (by rw [m_X8_undo, if_pos c_1])
