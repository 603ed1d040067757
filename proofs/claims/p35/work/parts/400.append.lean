def m_X8_append (z : SpT) (x1 : Int32) : Nat × Int32 × SpT := if x1 < 0 then (2, 0, z) else if x1 ≤ 255 then if tL (pT z) < 120 then (0, (m_X6_add (pT z) x1).1, pT' z (m_X6_add (pT z) x1).2) else (3, 0, z) else (2, 0, z)
set_option maxHeartbeats 2000000 in
set_option maxRecDepth 20000 in
theorem c_X8_append (l : Launch) (hl0 : l.stackTraces = false) (D : va_G) (cy : Nat → ClassId) (t : FxA) (xa sa sb tr na : Nat → Nat) (ka : Nat → Nat → Nat) (z : SpT) (x1 : Int32) (hT : iv 0 120 (tL (pT z))) : EX l D cy t yX8_append wsX8_append ({ frames := 6, cells := 1, slots := 6, locals := 81 } : Room) (wSp cy xa sa sb tr na ka z) (wSp cy xa sa sb tr na ka (m_X8_append z x1).2.2) [.ref (xa 0), .int x1] 1 6 (m_X8_append z x1).1 (m_X8_append z x1).2.1 := by
  refine EX.body (by decide) rfl (Nat.le_of_ble_eq_true rfl) ?_
  intro p e s m below meth c hx hb hml hnx hr hts hown hlocks hP hG ls hl A hD hA hS hF
  have hl : lv_has ls 2 [(0, .ref (xa 0)), (1, .int x1)] := hl
  have hCF : CallFix p m c cX8_append 2 s ([.ref (xa 0), .int x1] : List Value).toArray wsX8_append RX8 := ⟨hx, hb, hml, hown, hts⟩
  have in_X8 : ∀ w ∈ u_ws RX8 TX8 6, w ∈ wsX8_append := fun _ h => List.mem_cons_of_mem _ (List.mem_append_left _ (List.mem_append_left _ (List.mem_append_left _ (List.mem_append_right _ h))))
  have in_X6 : ∀ w ∈ u_ws RX6 TX6 7, w ∈ wsX8_append := fun _ h => List.mem_cons_of_mem _ (List.mem_append_left _ (List.mem_append_left _ (List.mem_append_right _ h)))
  have kf := hts (Cond.fieldLink RX8 10 "SparePool" "text" "LSparePool$Text;") (List.mem_of_getElem? (i := 5) rfl)
  have k1 := hts (Cond.initialized RX6) (List.mem_of_getElem? (i := 7) rfl)
  have k2 := hts (Cond.instanceMethod yX6_add) (List.mem_of_getElem? (i := 6) rfl)
  have k3 := hts (Cond.selects RX6 yX6_add yX6_add) (List.mem_of_getElem? (i := 8) rfl)
  refine lv_iload_n hx hb dX8_append_0 rfl (lv_at hl 1 rfl) ?_
  refine lv_if_lt (tgt := 11) hx hb dX8_append_1 (by decide) (fun c_1 => ?_) (fun c_1 => ?_)
  · exact ex_thr (i := 2) (ik := 41) (ic := 43) hx hb hl0 hown (hts (Cond.classLink RX8 41 "java/lang/IllegalArgumentException") (List.mem_of_getElem? (i := 1) rfl)) (hts (Cond.initialized "java/lang/IllegalArgumentException") (List.mem_of_getElem? (i := 2) rfl)) (by decide) (fun w h => hts w (List.mem_cons_of_mem _ (List.mem_append_left _ (List.mem_append_right _ h)))) (by decide +kernel) (by decide +kernel) hF hS hP (hl.1.trans hml.symm) dX8_append_11 dX8_append_14 dX8_append_15 dX8_append_18 hnx (Nat.le_of_ble_eq_true rfl) (Nat.le_of_ble_eq_true rfl) (Nat.le_of_ble_eq_true rfl) (Nat.le_of_ble_eq_true rfl) hlocks (Nat.le_of_ble_eq_true rfl) (Nat.le_of_ble_eq_true rfl) (by rw [m_X8_append, if_pos c_1]) (by decide) (by rw [m_X8_append, if_pos c_1])
  refine lv_iload_n hx hb dX8_append_4 rfl (lv_at hl 1 rfl) ?_
  refine lv_sipush (v := (255 : Int32)) hx hb dX8_append_5 (by decide) ?_
  refine lv_icmp_le (tgt := 19) hx hb dX8_append_8 (by decide) (fun c_2 => ?_) (fun c_2 => ?_)
  · refine lv_aload_n hx hb dX8_append_19 rfl (lv_at hl 0 rfl) ?_
    refine va_get (D := D) (ci := 6) (v := .ref (xa 3)) (C := RX8) (T := TX8) (N := 6) hx hb hts in_X8 hown hG.1 hP 0 g_Sp_0 rfl 0 (by decide) kf (fun _ h9 => h9) rfl dX8_append_20 ?_
    refine va_getN (D := D) (ci := 4) (v := .int (tL (pT z))) (C := RX6) (T := TX6) (N := 7) hx hb hts in_X6 hown hG.1 hP 3 g_Sp_3 rfl 1 (by decide) (va_Nw.use rfl (nw_X8_44 hG.2)) (fun _ h9 => h9) rfl dX8_append_23 ?_
    refine lv_bipush (v := (120 : Int32)) hx hb dX8_append_26 (by decide) ?_
    refine lv_icmp_lt (tgt := 39) hx hb dX8_append_28 (by decide) (fun c_3 => ?_) (fun c_3 => ?_)
    · refine lv_aload_n hx hb dX8_append_39 rfl (lv_at hl 0 rfl) ?_
      refine va_get (D := D) (ci := 6) (v := .ref (xa 3)) (C := RX8) (T := TX8) (N := 6) hx hb hts in_X8 hown hG.1 hP 0 g_Sp_0 rfl 0 (by decide) kf (fun _ h9 => h9) rfl dX8_append_40 ?_
      refine lv_iload_n hx hb dX8_append_43 rfl (lv_at hl 1 rfl) ?_
      refine mwVN (ci := 4) (A0 := A) (As := [.int x1]) (rest := []) (W1 := wSp cy xa sa sb tr na ka z) (W2 := wSp cy xa sa sb tr na ka (pT' z (m_X6_add (pT z) x1).2)) ((c_X6_add l D cy (xa 3) (xa 4) (pT z) x1 hT).ctx q_T q_T) hCF gX8_append_X6_add_n51 (nw_X8_51 hG.2) k1 k2 k3 rfl hd_X6_add ⟨rfl, rfl, Nat.le_of_ble_eq_true rfl, Nat.le_of_ble_eq_true rfl⟩ hG hP hD hS hA h_Sp rfl rfl (List.mem_of_getElem? g_Sp_3) rfl hl.1 rfl (Nat.le_of_ble_eq_true rfl) dX8_append_44 ⟨Nat.le_of_ble_eq_true rfl, Nat.le_of_ble_eq_true rfl⟩ (fun H locs hP hD hS => ?_)
      exact ex_iret hx hb hr hlocks hP hS (Nat.le_of_ble_eq_true rfl) (Nat.le_of_ble_eq_true rfl) dX8_append_47 (by rw [m_X8_append, if_neg c_1, if_pos c_2, if_pos c_3]) (by rw [m_X8_append, if_neg c_1, if_pos c_2, if_pos c_3]) (by rw [m_X8_append, if_neg c_1, if_pos c_2, if_pos c_3])
    · exact ex_thr (i := 3) (ik := 48) (ic := 50) hx hb hl0 hown (hts (Cond.classLink RX8 48 "java/lang/IllegalStateException") (List.mem_of_getElem? (i := 3) rfl)) (hts (Cond.initialized "java/lang/IllegalStateException") (List.mem_of_getElem? (i := 4) rfl)) (by decide) (fun w h => hts w (List.mem_cons_of_mem _ (List.mem_append_right _ h))) (by decide +kernel) (by decide +kernel) hF hS hP (hl.1.trans hml.symm) dX8_append_31 dX8_append_34 dX8_append_35 dX8_append_38 hnx (Nat.le_of_ble_eq_true rfl) (Nat.le_of_ble_eq_true rfl) (Nat.le_of_ble_eq_true rfl) (Nat.le_of_ble_eq_true rfl) hlocks (Nat.le_of_ble_eq_true rfl) (Nat.le_of_ble_eq_true rfl) (by rw [m_X8_append, if_neg c_1, if_pos c_2, if_neg c_3]) (by decide) (by rw [m_X8_append, if_neg c_1, if_pos c_2, if_neg c_3])
  · exact ex_thr (i := 2) (ik := 41) (ic := 43) hx hb hl0 hown (hts (Cond.classLink RX8 41 "java/lang/IllegalArgumentException") (List.mem_of_getElem? (i := 1) rfl)) (hts (Cond.initialized "java/lang/IllegalArgumentException") (List.mem_of_getElem? (i := 2) rfl)) (by decide) (fun w h => hts w (List.mem_cons_of_mem _ (List.mem_append_left _ (List.mem_append_right _ h)))) (by decide +kernel) (by decide +kernel) hF hS hP (hl.1.trans hml.symm) dX8_append_11 dX8_append_14 dX8_append_15 dX8_append_18 hnx (Nat.le_of_ble_eq_true rfl) (Nat.le_of_ble_eq_true rfl) (Nat.le_of_ble_eq_true rfl) (Nat.le_of_ble_eq_true rfl) hlocks (Nat.le_of_ble_eq_true rfl) (Nat.le_of_ble_eq_true rfl) (by rw [m_X8_append, if_neg c_1, if_neg c_2]) (by decide) (by rw [m_X8_append, if_neg c_1, if_neg c_2])
