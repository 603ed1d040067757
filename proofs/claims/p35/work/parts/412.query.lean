def m_X8_setting (z : SpT) (x1 : Int32) : Nat × Int32 × SpT := if (m_X8_isSetting x1) = (0 : Int32) then (2, (0 : Int32), z) else (0, (sS (pN z)) x1.toNatClampNeg, z)
theorem hd_X8_setting : yX8_setting.cls = RX8 ∧ yX8_setting.cls ≠ "java/lang/invoke/MethodHandle" ∧ yX8_setting.cls ≠ "java/lang/invoke/VarHandle" ∧ (parseMethodDescriptor yX8_setting.desc).map (fun d => d.parameters.length) = some 1 := by decide +kernel
set_option maxHeartbeats 8000000 in
set_option maxRecDepth 20000 in
theorem c_X8_setting (l : Launch) (hl0 : l.stackTraces = false) (D : va_G) (cy : Nat → ClassId) (t : FxA) (xa sa sb tr na : Nat → Nat) (ka : Nat → Nat → Nat) (z : SpT) (x1 : Int32) (hN : stOK (pN z)) : EX l D cy t yX8_setting wsX8_setting ({ frames := 6, cells := 1, slots := 6, locals := 81 } : Room) (wSp cy xa sa sb tr na ka z) (wSp cy xa sa sb tr na ka (m_X8_setting z x1).2.2) [.ref (xa 0), .int x1] 1 6 (m_X8_setting z x1).1 (m_X8_setting z x1).2.1 := by
  refine EX.body (by decide) rfl (Nat.le_of_ble_eq_true rfl) ?_
  intro p e s m below meth c hx hb hml hnx hr hts hown hlocks hP hG ls hl A hD hA hS hF
  have hl : lv_has ls 2 [(0, .ref (xa 0)), (1, .int x1)] := hl
  have hCF : CallFix p m c cX8_setting 2 s ([.ref (xa 0), .int x1] : List Value).toArray wsX8_setting RX8 := ⟨hx, hb, hml, hown, hts⟩
  have in_X5 : ∀ w ∈ u_ws RX5 TX5 9, w ∈ wsX8_setting := fun _ h => List.mem_cons_of_mem _ (List.mem_append_left _ (List.mem_append_right _ h))
  have in_X8 : ∀ w ∈ u_ws RX8 TX8 6, w ∈ wsX8_setting := fun _ h => List.mem_cons_of_mem _ (List.mem_append_left _ (List.mem_append_left _ (List.mem_append_right _ h)))
  have k_0 := hts (Cond.fieldLink RX8 19 "SparePool" "now" "LSparePool$State;") (List.mem_of_getElem? (i := 3) rfl)
  have hP : va_P D vwCl (wSp cy xa sa sb tr na ka z) s.heap := hP
  refine lv_iload_n hx hb dX8_setting_0 rfl (lv_at hl 1 rfl) ?_
  refine roS (wc := ([] : va_W)) (As := [.int x1]) (rest := []) (c_X8_isSetting l D cy x1) hCF gX8_setting_X8_isSetting rfl hd_X8_isSetting ⟨rfl, rfl, Nat.le_of_ble_eq_true rfl, Nat.le_of_ble_eq_true rfl⟩ hG va_P_nil rfl hl.1 rfl (Nat.le_of_ble_eq_true rfl) dX8_setting_1 ⟨Nat.le_of_ble_eq_true rfl, Nat.le_of_ble_eq_true rfl⟩ ?_
  refine lv_if_ne (tgt := 15) hx hb dX8_setting_4 (by decide) (fun c_1 => ?_) (fun c_1 => ?_)
  · skip
    refine lv_aload_n hx hb dX8_setting_15 rfl (lv_at hl 0 rfl) ?_
    refine va_get (D := D) (ci := 6) (v := .ref (na 0)) (C := RX8) (T := TX8) (N := 6) hx hb hts in_X8 hown hG.1 hP 0 g_Sp_0 rfl 1 (by decide) k_0 (fun _ h9 => h9) rfl dX8_setting_16 ?_
    refine va_getN (D := D) (ci := 3) (v := .ref (na 14)) (C := RX5) (T := TX5) (N := 9) hx hb hts in_X5 hown hG.1 hP 50 g_Sp_50 rfl 4 (by decide) (va_Nw.use rfl (nw_X8_220 hG.2)) (fun _ h9 => h9) rfl dX8_setting_19 ?_
    refine lv_iload_n hx hb dX8_setting_22 rfl (lv_at hl 1 rfl) ?_
    refine va_iald hx hb hG.1 hP 64 0 (n := 3) (f := (sS (pN z))) g_Sp_64 rfl (bd_isSetting c_1) dX8_setting_23 ?_
    exact ex_iret hx hb hr hlocks hP hS (Nat.le_of_ble_eq_true rfl) (Nat.le_of_ble_eq_true rfl) dX8_setting_24 (by rw [m_X8_setting, if_neg c_1]) (by rw [m_X8_setting, if_neg c_1]) (by rw [m_X8_setting, if_neg c_1])
  · skip
    exact ex_thr (i := 2) (ik := 41) (ic := 43) hx hb hl0 hown (hts (Cond.classLink RX8 41 "java/lang/IllegalArgumentException") (List.mem_of_getElem? (i := 1) rfl)) (hts (Cond.initialized "java/lang/IllegalArgumentException") (List.mem_of_getElem? (i := 2) rfl)) (by decide) (fun w h => hts w (List.mem_cons_of_mem _ (List.mem_append_right _ h))) (by decide +kernel) (by decide +kernel) hF hS hP (hl.1.trans hml.symm) dX8_setting_7 dX8_setting_10 dX8_setting_11 dX8_setting_14 hnx (Nat.le_of_ble_eq_true rfl) (Nat.le_of_ble_eq_true rfl) (Nat.le_of_ble_eq_true rfl) (Nat.le_of_ble_eq_true rfl) hlocks (Nat.le_of_ble_eq_true rfl) (Nat.le_of_ble_eq_true rfl) (by rw [m_X8_setting, if_pos c_1]) (by decide) (by rw [m_X8_setting, if_pos c_1])
def m_X8_owed (z : SpT) (x1 : Int32) (x2 : Int32) (x3 : Int32) (x4 : Int32) : Nat × Int32 × SpT := if (m_X8_isHolder x1) = (0 : Int32) then (1, (0 : Int32), z) else if (m_X8_isHolder x2) = (0 : Int32) then (1, (0 : Int32), z) else if (m_X8_isKind x3) = (0 : Int32) then (1, (0 : Int32), z) else if (m_X8_isPart x4) = (0 : Int32) then (1, (0 : Int32), z) else (0, m_X1_between (sD (pN z)) x1 x2 x3 x4, z)
theorem hd_X8_owed : yX8_owed.cls = RX8 ∧ yX8_owed.cls ≠ "java/lang/invoke/MethodHandle" ∧ yX8_owed.cls ≠ "java/lang/invoke/VarHandle" ∧ (parseMethodDescriptor yX8_owed.desc).map (fun d => d.parameters.length) = some 4 := by decide +kernel
set_option maxHeartbeats 8000000 in
set_option maxRecDepth 20000 in
theorem c_X8_owed (l : Launch) (hl0 : l.stackTraces = false) (D : va_G) (cy : Nat → ClassId) (t : FxA) (xa sa sb tr na : Nat → Nat) (ka : Nat → Nat → Nat) (z : SpT) (x1 : Int32) (x2 : Int32) (x3 : Int32) (x4 : Int32) (hN : stOK (pN z)) : EX l D cy t yX8_owed wsX8_owed ({ frames := 6, cells := 1, slots := 6, locals := 81 } : Room) (wSp cy xa sa sb tr na ka z) (wSp cy xa sa sb tr na ka (m_X8_owed z x1 x2 x3 x4).2.2) [.ref (xa 0), .int x1, .int x2, .int x3, .int x4] 1 6 (m_X8_owed z x1 x2 x3 x4).1 (m_X8_owed z x1 x2 x3 x4).2.1 := by
  refine EX.body (by decide) rfl (Nat.le_of_ble_eq_true rfl) ?_
  intro p e s m below meth c hx hb hml hnx hr hts hown hlocks hP hG ls hl A hD hA hS hF
  have hl : lv_has ls 5 [(0, .ref (xa 0)), (1, .int x1), (2, .int x2), (3, .int x3), (4, .int x4)] := hl
  have hCF : CallFix p m c cX8_owed 5 s ([.ref (xa 0), .int x1, .int x2, .int x3, .int x4] : List Value).toArray wsX8_owed RX8 := ⟨hx, hb, hml, hown, hts⟩
  have in_X5 : ∀ w ∈ u_ws RX5 TX5 9, w ∈ wsX8_owed := fun _ h => List.mem_cons_of_mem _ (List.mem_append_left _ (List.mem_append_left _ (List.mem_append_right _ h)))
  have in_X8 : ∀ w ∈ u_ws RX8 TX8 6, w ∈ wsX8_owed := fun _ h => List.mem_cons_of_mem _ (List.mem_append_left _ (List.mem_append_left _ (List.mem_append_left _ (List.mem_append_right _ h))))
  have k_0 := hts (Cond.fieldLink RX8 19 "SparePool" "now" "LSparePool$State;") (List.mem_of_getElem? (i := 3) rfl)
  have k_1 := hts (Cond.initialized RX1) (List.mem_of_getElem? (i := 15) rfl)
  have k_2 := hts (Cond.instanceMethod yX1_between) (List.mem_of_getElem? (i := 14) rfl)
  have k_3 := hts (Cond.selects RX1 yX1_between yX1_between) (List.mem_of_getElem? (i := 16) rfl)
  have hP : va_P D vwCl (wSp cy xa sa sb tr na ka z) s.heap := hP
  refine lv_iload_n hx hb dX8_owed_0 rfl (lv_at hl 1 rfl) ?_
  refine roS (wc := ([] : va_W)) (As := [.int x1]) (rest := []) (c_X8_isHolder l D cy x1) hCF gX8_owed_X8_isHolder rfl hd_X8_isHolder ⟨rfl, rfl, Nat.le_of_ble_eq_true rfl, Nat.le_of_ble_eq_true rfl⟩ hG va_P_nil rfl hl.1 rfl (Nat.le_of_ble_eq_true rfl) dX8_owed_1 ⟨Nat.le_of_ble_eq_true rfl, Nat.le_of_ble_eq_true rfl⟩ ?_
  refine lv_if_eq (tgt := 29) hx hb dX8_owed_4 (by decide) (fun c_1 => ?_) (fun c_1 => ?_)
  · skip
    exact ex_thr (i := 1) (ik := 156) (ic := 158) hx hb hl0 hown (hts (Cond.classLink RX8 156 "java/lang/IndexOutOfBoundsException") (List.mem_of_getElem? (i := 1) rfl)) (hts (Cond.initialized "java/lang/IndexOutOfBoundsException") (List.mem_of_getElem? (i := 2) rfl)) (by decide) (fun w h => hts w (List.mem_cons_of_mem _ (List.mem_append_right _ h))) (by decide +kernel) (by decide +kernel) hF hS hP (hl.1.trans hml.symm) dX8_owed_29 dX8_owed_32 dX8_owed_33 dX8_owed_36 hnx (Nat.le_of_ble_eq_true rfl) (Nat.le_of_ble_eq_true rfl) (Nat.le_of_ble_eq_true rfl) (Nat.le_of_ble_eq_true rfl) hlocks (Nat.le_of_ble_eq_true rfl) (Nat.le_of_ble_eq_true rfl) (by rw [m_X8_owed, if_pos c_1]) (by decide) (by rw [m_X8_owed, if_pos c_1])
  · skip
    refine lv_iload_n hx hb dX8_owed_7 rfl (lv_at hl 2 rfl) ?_
    refine roS (wc := ([] : va_W)) (As := [.int x2]) (rest := []) (c_X8_isHolder l D cy x2) hCF gX8_owed_X8_isHolder rfl hd_X8_isHolder ⟨rfl, rfl, Nat.le_of_ble_eq_true rfl, Nat.le_of_ble_eq_true rfl⟩ hG va_P_nil rfl hl.1 rfl (Nat.le_of_ble_eq_true rfl) dX8_owed_8 ⟨Nat.le_of_ble_eq_true rfl, Nat.le_of_ble_eq_true rfl⟩ ?_
    refine lv_if_eq (tgt := 29) hx hb dX8_owed_11 (by decide) (fun c_2 => ?_) (fun c_2 => ?_)
    · skip
      exact ex_thr (i := 1) (ik := 156) (ic := 158) hx hb hl0 hown (hts (Cond.classLink RX8 156 "java/lang/IndexOutOfBoundsException") (List.mem_of_getElem? (i := 1) rfl)) (hts (Cond.initialized "java/lang/IndexOutOfBoundsException") (List.mem_of_getElem? (i := 2) rfl)) (by decide) (fun w h => hts w (List.mem_cons_of_mem _ (List.mem_append_right _ h))) (by decide +kernel) (by decide +kernel) hF hS hP (hl.1.trans hml.symm) dX8_owed_29 dX8_owed_32 dX8_owed_33 dX8_owed_36 hnx (Nat.le_of_ble_eq_true rfl) (Nat.le_of_ble_eq_true rfl) (Nat.le_of_ble_eq_true rfl) (Nat.le_of_ble_eq_true rfl) hlocks (Nat.le_of_ble_eq_true rfl) (Nat.le_of_ble_eq_true rfl) (by rw [m_X8_owed, if_neg c_1, if_pos c_2]) (by decide) (by rw [m_X8_owed, if_neg c_1, if_pos c_2])
    · skip
      refine lv_iload_n hx hb dX8_owed_14 rfl (lv_at hl 3 rfl) ?_
      refine roS (wc := ([] : va_W)) (As := [.int x3]) (rest := []) (c_X8_isKind l D cy x3) hCF gX8_owed_X8_isKind rfl hd_X8_isKind ⟨rfl, rfl, Nat.le_of_ble_eq_true rfl, Nat.le_of_ble_eq_true rfl⟩ hG va_P_nil rfl hl.1 rfl (Nat.le_of_ble_eq_true rfl) dX8_owed_15 ⟨Nat.le_of_ble_eq_true rfl, Nat.le_of_ble_eq_true rfl⟩ ?_
      refine lv_if_eq (tgt := 29) hx hb dX8_owed_18 (by decide) (fun c_3 => ?_) (fun c_3 => ?_)
      · skip
        exact ex_thr (i := 1) (ik := 156) (ic := 158) hx hb hl0 hown (hts (Cond.classLink RX8 156 "java/lang/IndexOutOfBoundsException") (List.mem_of_getElem? (i := 1) rfl)) (hts (Cond.initialized "java/lang/IndexOutOfBoundsException") (List.mem_of_getElem? (i := 2) rfl)) (by decide) (fun w h => hts w (List.mem_cons_of_mem _ (List.mem_append_right _ h))) (by decide +kernel) (by decide +kernel) hF hS hP (hl.1.trans hml.symm) dX8_owed_29 dX8_owed_32 dX8_owed_33 dX8_owed_36 hnx (Nat.le_of_ble_eq_true rfl) (Nat.le_of_ble_eq_true rfl) (Nat.le_of_ble_eq_true rfl) (Nat.le_of_ble_eq_true rfl) hlocks (Nat.le_of_ble_eq_true rfl) (Nat.le_of_ble_eq_true rfl) (by rw [m_X8_owed, if_neg c_1, if_neg c_2, if_pos c_3]) (by decide) (by rw [m_X8_owed, if_neg c_1, if_neg c_2, if_pos c_3])
      · skip
        refine lv_iload hx hb dX8_owed_21 (lv_at hl 4 rfl) ?_
        refine roS (wc := ([] : va_W)) (As := [.int x4]) (rest := []) (c_X8_isPart l D cy x4) hCF gX8_owed_X8_isPart rfl hd_X8_isPart ⟨rfl, rfl, Nat.le_of_ble_eq_true rfl, Nat.le_of_ble_eq_true rfl⟩ hG va_P_nil rfl hl.1 rfl (Nat.le_of_ble_eq_true rfl) dX8_owed_23 ⟨Nat.le_of_ble_eq_true rfl, Nat.le_of_ble_eq_true rfl⟩ ?_
        refine lv_if_ne (tgt := 37) hx hb dX8_owed_26 (by decide) (fun c_4 => ?_) (fun c_4 => ?_)
        · skip
          refine lv_aload_n hx hb dX8_owed_37 rfl (lv_at hl 0 rfl) ?_
          refine va_get (D := D) (ci := 6) (v := .ref (na 0)) (C := RX8) (T := TX8) (N := 6) hx hb hts in_X8 hown hG.1 hP 0 g_Sp_0 rfl 1 (by decide) k_0 (fun _ h9 => h9) rfl dX8_owed_38 ?_
          refine va_getN (D := D) (ci := 3) (v := .ref (na 11)) (C := RX5) (T := TX5) (N := 9) hx hb hts in_X5 hown hG.1 hP 50 g_Sp_50 rfl 2 (by decide) (va_Nw.use rfl (nw_X8_136 hG.2)) (fun _ h9 => h9) rfl dX8_owed_41 ?_
          refine lv_iload_n hx hb dX8_owed_44 rfl (lv_at hl 1 rfl) ?_
          refine lv_iload_n hx hb dX8_owed_45 rfl (lv_at hl 2 rfl) ?_
          refine lv_iload_n hx hb dX8_owed_46 rfl (lv_at hl 3 rfl) ?_
          refine lv_iload hx hb dX8_owed_47 (lv_at hl 4 rfl) ?_
          refine roVN (wc := (wDe cy (na 11) (na 12) (sD (pN z)))) (As := [.int x1, .int x2, .int x3, .int x4]) (rest := []) (c_X1_between l D cy (na 11) (na 12) (sD (pN z)) x1 x2 x3 x4) hCF gX8_owed_X1_between_n207 (nw_X8_207 hG.2) k_1 k_2 k_3 rfl hd_X1_between ⟨rfl, rfl, Nat.le_of_ble_eq_true rfl, Nat.le_of_ble_eq_true rfl⟩ hG (hP.sub (ws' := (wDe cy (na 11) (na 12) (sD (pN z)))) [61, 62] u_Sp_De61) (ci := 1) rfl rfl g_De_0 rfl hl.1 rfl (Nat.le_of_ble_eq_true rfl) dX8_owed_49 ⟨Nat.le_of_ble_eq_true rfl, Nat.le_of_ble_eq_true rfl⟩ ?_
          exact ex_iret hx hb hr hlocks hP hS (Nat.le_of_ble_eq_true rfl) (Nat.le_of_ble_eq_true rfl) dX8_owed_52 (by rw [m_X8_owed, if_neg c_1, if_neg c_2, if_neg c_3, if_neg c_4]) (by rw [m_X8_owed, if_neg c_1, if_neg c_2, if_neg c_3, if_neg c_4]) (by rw [m_X8_owed, if_neg c_1, if_neg c_2, if_neg c_3, if_neg c_4])
        · skip
          exact ex_thr (i := 1) (ik := 156) (ic := 158) hx hb hl0 hown (hts (Cond.classLink RX8 156 "java/lang/IndexOutOfBoundsException") (List.mem_of_getElem? (i := 1) rfl)) (hts (Cond.initialized "java/lang/IndexOutOfBoundsException") (List.mem_of_getElem? (i := 2) rfl)) (by decide) (fun w h => hts w (List.mem_cons_of_mem _ (List.mem_append_right _ h))) (by decide +kernel) (by decide +kernel) hF hS hP (hl.1.trans hml.symm) dX8_owed_29 dX8_owed_32 dX8_owed_33 dX8_owed_36 hnx (Nat.le_of_ble_eq_true rfl) (Nat.le_of_ble_eq_true rfl) (Nat.le_of_ble_eq_true rfl) (Nat.le_of_ble_eq_true rfl) hlocks (Nat.le_of_ble_eq_true rfl) (Nat.le_of_ble_eq_true rfl) (by rw [m_X8_owed, if_neg c_1, if_neg c_2, if_neg c_3, if_pos c_4]) (by decide) (by rw [m_X8_owed, if_neg c_1, if_neg c_2, if_neg c_3, if_pos c_4])
def m_X8_firstDue (z : SpT) : Int32 × SpT := (m_X7_dueFirst (sU (pN z)), z)
theorem hd_X8_firstDue : yX8_firstDue.cls = RX8 ∧ yX8_firstDue.cls ≠ "java/lang/invoke/MethodHandle" ∧ yX8_firstDue.cls ≠ "java/lang/invoke/VarHandle" ∧ (parseMethodDescriptor yX8_firstDue.desc).map (fun d => d.parameters.length) = some 0 := by decide +kernel
set_option maxHeartbeats 8000000 in
set_option maxRecDepth 20000 in
theorem c_X8_firstDue (l : Launch) (D : va_G) (cy : Nat → ClassId) (t : FxA) (xa sa sb tr na : Nat → Nat) (ka : Nat → Nat → Nat) (z : SpT) (hN : stOK (pN z)) : MUf l D cy t yX8_firstDue wsX8_firstDue ({ frames := 3, cells := 0, slots := 0, locals := 64 } : Room) (wSp cy xa sa sb tr na ka z) (wSp cy xa sa sb tr na ka (m_X8_firstDue z).2) [.ref (xa 0)] (m_X8_firstDue z).1 := by
  refine MUf.body (by decide) rfl (Nat.le_of_ble_eq_true rfl) ?_
  intro p e s m below meth c hx hb hml hr hts hown hlocks hP hG ls hl A hD hA hS hF
  have hl : lv_has ls 1 [(0, .ref (xa 0))] := hl
  have hCF : CallFix p m c cX8_firstDue 1 s ([.ref (xa 0)] : List Value).toArray wsX8_firstDue RX8 := ⟨hx, hb, hml, hown, hts⟩
  have in_X5 : ∀ w ∈ u_ws RX5 TX5 9, w ∈ wsX8_firstDue := fun _ h => List.mem_cons_of_mem _ (List.mem_append_left _ (List.mem_append_right _ h))
  have in_X8 : ∀ w ∈ u_ws RX8 TX8 6, w ∈ wsX8_firstDue := fun _ h => List.mem_cons_of_mem _ (List.mem_append_left _ (List.mem_append_left _ (List.mem_append_right _ h)))
  have k_0 := hts (Cond.fieldLink RX8 19 "SparePool" "now" "LSparePool$State;") (List.mem_of_getElem? (i := 1) rfl)
  have k_1 := hts (Cond.initialized RX7) (List.mem_of_getElem? (i := 3) rfl)
  have k_2 := hts (Cond.instanceMethod yX7_dueFirst) (List.mem_of_getElem? (i := 2) rfl)
  have k_3 := hts (Cond.selects RX7 yX7_dueFirst yX7_dueFirst) (List.mem_of_getElem? (i := 4) rfl)
  have hP : va_P D vwCl (wSp cy xa sa sb tr na ka z) s.heap := hP
  refine lv_aload_n hx hb dX8_firstDue_0 rfl (lv_at hl 0 rfl) ?_
  refine va_get (D := D) (ci := 6) (v := .ref (na 0)) (C := RX8) (T := TX8) (N := 6) hx hb hts in_X8 hown hG.1 hP 0 g_Sp_0 rfl 1 (by decide) k_0 (fun _ h9 => h9) rfl dX8_firstDue_1 ?_
  refine va_getN (D := D) (ci := 3) (v := .ref (na 1)) (C := RX5) (T := TX5) (N := 9) hx hb hts in_X5 hown hG.1 hP 50 g_Sp_50 rfl 0 (by decide) (va_Nw.use rfl (nw_X8_109 hG.2)) (fun _ h9 => h9) rfl dX8_firstDue_4 ?_
  refine roVN (wc := (wUn cy (na 1) (na 2) (na 3) (na 4) (na 5) (na 6) (sU (pN z)))) (As := []) (rest := []) (c_X7_dueFirst l D cy (na 1) (na 2) (na 3) (na 4) (na 5) (na 6) (sU (pN z)) hN.1) hCF gX8_firstDue_X7_dueFirst_n261 (nw_X8_261 hG.2) k_1 k_2 k_3 rfl hd_X7_dueFirst ⟨rfl, rfl, Nat.le_of_ble_eq_true rfl, Nat.le_of_ble_eq_true rfl⟩ hG (hP.sub (ws' := (wUn cy (na 1) (na 2) (na 3) (na 4) (na 5) (na 6) (sU (pN z)))) [51, 52, 53, 54, 55, 56] u_Sp_Un51) (ci := 5) rfl rfl g_Un_0 rfl hl.1 rfl (Nat.le_of_ble_eq_true rfl) dX8_firstDue_7 ⟨Nat.le_of_ble_eq_true rfl, Nat.le_of_ble_eq_true rfl⟩ ?_
  exact mu_iret hx hb hr hlocks hP hS dX8_firstDue_10 (by rw [m_X8_firstDue]) (by rw [m_X8_firstDue])
def m_X8_about (z : SpT) (x1 : Int32) : Nat × Int32 × SpT := if x1 = (0 : Int32) then (0, sT (pN z), z) else if x1 = (1 : Int32) then (0, uN (sU (pN z)), z) else if x1 = (2 : Int32) then (0, m_X7_usableOnes (sU (pN z)), z) else if x1 = (3 : Int32) then (0, m_X7_onLoan (sU (pN z)), z) else if x1 = (4 : Int32) then (0, m_X7_dueBefore (sU (pN z)) (sT (pN z)), z) else if x1 = (5 : Int32) then (0, m_X0_all (sC (pN z)), z) else if x1 = (6 : Int32) then (0, m_X1_all (sD (pN z)), z) else if x1 = (7 : Int32) then (0, sK (pN z), z) else if x1 = (8 : Int32) then (0, sX (pN z), z) else if x1 = (9 : Int32) then (0, sO (pN z), z) else (2, (0 : Int32), z)
theorem hd_X8_about : yX8_about.cls = RX8 ∧ yX8_about.cls ≠ "java/lang/invoke/MethodHandle" ∧ yX8_about.cls ≠ "java/lang/invoke/VarHandle" ∧ (parseMethodDescriptor yX8_about.desc).map (fun d => d.parameters.length) = some 1 := by decide +kernel
set_option maxHeartbeats 8000000 in
set_option maxRecDepth 20000 in
theorem c_X8_about (l : Launch) (hl0 : l.stackTraces = false) (D : va_G) (cy : Nat → ClassId) (t : FxA) (xa sa sb tr na : Nat → Nat) (ka : Nat → Nat → Nat) (z : SpT) (x1 : Int32) (hN : stOK (pN z)) : EX l D cy t yX8_about wsX8_about ({ frames := 6, cells := 1, slots := 6, locals := 90 } : Room) (wSp cy xa sa sb tr na ka z) (wSp cy xa sa sb tr na ka (m_X8_about z x1).2.2) [.ref (xa 0), .int x1] 1 6 (m_X8_about z x1).1 (m_X8_about z x1).2.1 := by
  refine EX.body (by decide) rfl (Nat.le_of_ble_eq_true rfl) ?_
  intro p e s m below meth c hx hb hml hnx hr hts hown hlocks hP hG ls hl A hD hA hS hF
  have hl : lv_has ls 2 [(0, .ref (xa 0)), (1, .int x1)] := hl
  have hCF : CallFix p m c cX8_about 2 s ([.ref (xa 0), .int x1] : List Value).toArray wsX8_about RX8 := ⟨hx, hb, hml, hown, hts⟩
  have in_X5 : ∀ w ∈ u_ws RX5 TX5 9, w ∈ wsX8_about := fun _ h => List.mem_cons_of_mem _ (List.mem_append_left _ (List.mem_append_left _ (List.mem_append_left _ (List.mem_append_left _ (List.mem_append_right _ h)))))
  have in_X7 : ∀ w ∈ u_ws RX7 TX7 6, w ∈ wsX8_about := fun _ h => List.mem_cons_of_mem _ (List.mem_append_left _ (List.mem_append_left _ (List.mem_append_left _ (List.mem_append_right _ h))))
  have in_X8 : ∀ w ∈ u_ws RX8 TX8 6, w ∈ wsX8_about := fun _ h => List.mem_cons_of_mem _ (List.mem_append_left _ (List.mem_append_left _ (List.mem_append_left _ (List.mem_append_left _ (List.mem_append_left _ (List.mem_append_right _ h))))))
  have k_0 := hts (Cond.fieldLink RX8 19 "SparePool" "now" "LSparePool$State;") (List.mem_of_getElem? (i := 3) rfl)
  have k_1 := hts (Cond.initialized RX7) (List.mem_of_getElem? (i := 5) rfl)
  have k_2 := hts (Cond.instanceMethod yX7_usableOnes) (List.mem_of_getElem? (i := 4) rfl)
  have k_3 := hts (Cond.selects RX7 yX7_usableOnes yX7_usableOnes) (List.mem_of_getElem? (i := 6) rfl)
  have k_4 := hts (Cond.instanceMethod yX7_onLoan) (List.mem_of_getElem? (i := 18) rfl)
  have k_5 := hts (Cond.selects RX7 yX7_onLoan yX7_onLoan) (List.mem_of_getElem? (i := 19) rfl)
  have k_6 := hts (Cond.instanceMethod yX7_dueBefore) (List.mem_of_getElem? (i := 27) rfl)
  have k_7 := hts (Cond.selects RX7 yX7_dueBefore yX7_dueBefore) (List.mem_of_getElem? (i := 28) rfl)
  have k_8 := hts (Cond.initialized RX0) (List.mem_of_getElem? (i := 32) rfl)
  have k_9 := hts (Cond.instanceMethod yX0_all) (List.mem_of_getElem? (i := 31) rfl)
  have k_10 := hts (Cond.selects RX0 yX0_all yX0_all) (List.mem_of_getElem? (i := 33) rfl)
  have k_11 := hts (Cond.initialized RX1) (List.mem_of_getElem? (i := 37) rfl)
  have k_12 := hts (Cond.instanceMethod yX1_all) (List.mem_of_getElem? (i := 36) rfl)
  have k_13 := hts (Cond.selects RX1 yX1_all yX1_all) (List.mem_of_getElem? (i := 38) rfl)
  have hP : va_P D vwCl (wSp cy xa sa sb tr na ka z) s.heap := hP
  refine lv_iload_n hx hb dX8_about_0 rfl (lv_at hl 1 rfl) ?_
  by_cases c_1 : x1 = (0 : Int32)
  · refine lv_tableIn (tgt := 56) hx hb dX8_about_1 (by rw [c_1]; decide) (by rw [c_1]; decide) (by rw [c_1]; rfl) (by decide) ?_
    refine lv_aload_n hx hb dX8_about_56 rfl (lv_at hl 0 rfl) ?_
    refine va_get (D := D) (ci := 6) (v := .ref (na 0)) (C := RX8) (T := TX8) (N := 6) hx hb hts in_X8 hown hG.1 hP 0 g_Sp_0 rfl 1 (by decide) k_0 (fun _ h9 => h9) rfl dX8_about_57 ?_
    refine va_getN (D := D) (ci := 3) (v := .int (sT (pN z))) (C := RX5) (T := TX5) (N := 9) hx hb hts in_X5 hown hG.1 hP 50 g_Sp_50 rfl 5 (by decide) (va_Nw.use rfl (nw_X8_106 hG.2)) (fun _ h9 => h9) rfl dX8_about_60 ?_
    exact ex_iret hx hb hr hlocks hP hS (Nat.le_of_ble_eq_true rfl) (Nat.le_of_ble_eq_true rfl) dX8_about_63 (by rw [m_X8_about, if_pos c_1]) (by rw [m_X8_about, if_pos c_1]) (by rw [m_X8_about, if_pos c_1])
  by_cases c_2 : x1 = (1 : Int32)
  · refine lv_tableIn (tgt := 64) hx hb dX8_about_1 (by rw [c_2]; decide) (by rw [c_2]; decide) (by rw [c_2]; rfl) (by decide) ?_
    refine lv_aload_n hx hb dX8_about_64 rfl (lv_at hl 0 rfl) ?_
    refine va_get (D := D) (ci := 6) (v := .ref (na 0)) (C := RX8) (T := TX8) (N := 6) hx hb hts in_X8 hown hG.1 hP 0 g_Sp_0 rfl 1 (by decide) k_0 (fun _ h9 => h9) rfl dX8_about_65 ?_
    refine va_getN (D := D) (ci := 3) (v := .ref (na 1)) (C := RX5) (T := TX5) (N := 9) hx hb hts in_X5 hown hG.1 hP 50 g_Sp_50 rfl 0 (by decide) (va_Nw.use rfl (nw_X8_109 hG.2)) (fun _ h9 => h9) rfl dX8_about_68 ?_
    refine va_getN (D := D) (ci := 5) (v := .int (uN (sU (pN z)))) (C := RX7) (T := TX7) (N := 6) hx hb hts in_X7 hown hG.1 hP 51 g_Sp_51 rfl 5 (by decide) (va_Nw.use rfl (nw_X8_113 hG.2)) (fun _ h9 => h9) rfl dX8_about_71 ?_
    exact ex_iret hx hb hr hlocks hP hS (Nat.le_of_ble_eq_true rfl) (Nat.le_of_ble_eq_true rfl) dX8_about_74 (by rw [m_X8_about, if_neg c_1, if_pos c_2]) (by rw [m_X8_about, if_neg c_1, if_pos c_2]) (by rw [m_X8_about, if_neg c_1, if_pos c_2])
  by_cases c_3 : x1 = (2 : Int32)
  · refine lv_tableIn (tgt := 75) hx hb dX8_about_1 (by rw [c_3]; decide) (by rw [c_3]; decide) (by rw [c_3]; rfl) (by decide) ?_
    refine lv_aload_n hx hb dX8_about_75 rfl (lv_at hl 0 rfl) ?_
    refine va_get (D := D) (ci := 6) (v := .ref (na 0)) (C := RX8) (T := TX8) (N := 6) hx hb hts in_X8 hown hG.1 hP 0 g_Sp_0 rfl 1 (by decide) k_0 (fun _ h9 => h9) rfl dX8_about_76 ?_
    refine va_getN (D := D) (ci := 3) (v := .ref (na 1)) (C := RX5) (T := TX5) (N := 9) hx hb hts in_X5 hown hG.1 hP 50 g_Sp_50 rfl 0 (by decide) (va_Nw.use rfl (nw_X8_109 hG.2)) (fun _ h9 => h9) rfl dX8_about_79 ?_
    refine roVN (wc := (wUn cy (na 1) (na 2) (na 3) (na 4) (na 5) (na 6) (sU (pN z)))) (As := []) (rest := []) (c_X7_usableOnes l D cy (na 1) (na 2) (na 3) (na 4) (na 5) (na 6) (sU (pN z)) hN.1) hCF gX8_about_X7_usableOnes_n118 (nw_X8_118 hG.2) k_1 k_2 k_3 rfl hd_X7_usableOnes ⟨rfl, rfl, Nat.le_of_ble_eq_true rfl, Nat.le_of_ble_eq_true rfl⟩ hG (hP.sub (ws' := (wUn cy (na 1) (na 2) (na 3) (na 4) (na 5) (na 6) (sU (pN z)))) [51, 52, 53, 54, 55, 56] u_Sp_Un51) (ci := 5) rfl rfl g_Un_0 rfl hl.1 rfl (Nat.le_of_ble_eq_true rfl) dX8_about_82 ⟨Nat.le_of_ble_eq_true rfl, Nat.le_of_ble_eq_true rfl⟩ ?_
    exact ex_iret hx hb hr hlocks hP hS (Nat.le_of_ble_eq_true rfl) (Nat.le_of_ble_eq_true rfl) dX8_about_85 (by rw [m_X8_about, if_neg c_1, if_neg c_2, if_pos c_3]) (by rw [m_X8_about, if_neg c_1, if_neg c_2, if_pos c_3]) (by rw [m_X8_about, if_neg c_1, if_neg c_2, if_pos c_3])
  by_cases c_4 : x1 = (3 : Int32)
  · refine lv_tableIn (tgt := 86) hx hb dX8_about_1 (by rw [c_4]; decide) (by rw [c_4]; decide) (by rw [c_4]; rfl) (by decide) ?_
    refine lv_aload_n hx hb dX8_about_86 rfl (lv_at hl 0 rfl) ?_
    refine va_get (D := D) (ci := 6) (v := .ref (na 0)) (C := RX8) (T := TX8) (N := 6) hx hb hts in_X8 hown hG.1 hP 0 g_Sp_0 rfl 1 (by decide) k_0 (fun _ h9 => h9) rfl dX8_about_87 ?_
    refine va_getN (D := D) (ci := 3) (v := .ref (na 1)) (C := RX5) (T := TX5) (N := 9) hx hb hts in_X5 hown hG.1 hP 50 g_Sp_50 rfl 0 (by decide) (va_Nw.use rfl (nw_X8_109 hG.2)) (fun _ h9 => h9) rfl dX8_about_90 ?_
    refine roVN (wc := (wUn cy (na 1) (na 2) (na 3) (na 4) (na 5) (na 6) (sU (pN z)))) (As := []) (rest := []) (c_X7_onLoan l D cy (na 1) (na 2) (na 3) (na 4) (na 5) (na 6) (sU (pN z)) hN.1) hCF gX8_about_X7_onLoan_n121 (nw_X8_121 hG.2) k_1 k_4 k_5 rfl hd_X7_onLoan ⟨rfl, rfl, Nat.le_of_ble_eq_true rfl, Nat.le_of_ble_eq_true rfl⟩ hG (hP.sub (ws' := (wUn cy (na 1) (na 2) (na 3) (na 4) (na 5) (na 6) (sU (pN z)))) [51, 52, 53, 54, 55, 56] u_Sp_Un51) (ci := 5) rfl rfl g_Un_0 rfl hl.1 rfl (Nat.le_of_ble_eq_true rfl) dX8_about_93 ⟨Nat.le_of_ble_eq_true rfl, Nat.le_of_ble_eq_true rfl⟩ ?_
    exact ex_iret hx hb hr hlocks hP hS (Nat.le_of_ble_eq_true rfl) (Nat.le_of_ble_eq_true rfl) dX8_about_96 (by rw [m_X8_about, if_neg c_1, if_neg c_2, if_neg c_3, if_pos c_4]) (by rw [m_X8_about, if_neg c_1, if_neg c_2, if_neg c_3, if_pos c_4]) (by rw [m_X8_about, if_neg c_1, if_neg c_2, if_neg c_3, if_pos c_4])
  by_cases c_5 : x1 = (4 : Int32)
  · refine lv_tableIn (tgt := 97) hx hb dX8_about_1 (by rw [c_5]; decide) (by rw [c_5]; decide) (by rw [c_5]; rfl) (by decide) ?_
    refine lv_aload_n hx hb dX8_about_97 rfl (lv_at hl 0 rfl) ?_
    refine va_get (D := D) (ci := 6) (v := .ref (na 0)) (C := RX8) (T := TX8) (N := 6) hx hb hts in_X8 hown hG.1 hP 0 g_Sp_0 rfl 1 (by decide) k_0 (fun _ h9 => h9) rfl dX8_about_98 ?_
    refine va_getN (D := D) (ci := 3) (v := .ref (na 1)) (C := RX5) (T := TX5) (N := 9) hx hb hts in_X5 hown hG.1 hP 50 g_Sp_50 rfl 0 (by decide) (va_Nw.use rfl (nw_X8_109 hG.2)) (fun _ h9 => h9) rfl dX8_about_101 ?_
    refine lv_aload_n hx hb dX8_about_104 rfl (lv_at hl 0 rfl) ?_
    refine va_get (D := D) (ci := 6) (v := .ref (na 0)) (C := RX8) (T := TX8) (N := 6) hx hb hts in_X8 hown hG.1 hP 0 g_Sp_0 rfl 1 (by decide) k_0 (fun _ h9 => h9) rfl dX8_about_105 ?_
    refine va_getN (D := D) (ci := 3) (v := .int (sT (pN z))) (C := RX5) (T := TX5) (N := 9) hx hb hts in_X5 hown hG.1 hP 50 g_Sp_50 rfl 5 (by decide) (va_Nw.use rfl (nw_X8_106 hG.2)) (fun _ h9 => h9) rfl dX8_about_108 ?_
    refine roVN (wc := (wUn cy (na 1) (na 2) (na 3) (na 4) (na 5) (na 6) (sU (pN z)))) (As := [.int (sT (pN z))]) (rest := []) (c_X7_dueBefore l D cy (na 1) (na 2) (na 3) (na 4) (na 5) (na 6) (sU (pN z)) (sT (pN z)) hN.1) hCF gX8_about_X7_dueBefore_n124 (nw_X8_124 hG.2) k_1 k_6 k_7 rfl hd_X7_dueBefore ⟨rfl, rfl, Nat.le_of_ble_eq_true rfl, Nat.le_of_ble_eq_true rfl⟩ hG (hP.sub (ws' := (wUn cy (na 1) (na 2) (na 3) (na 4) (na 5) (na 6) (sU (pN z)))) [51, 52, 53, 54, 55, 56] u_Sp_Un51) (ci := 5) rfl rfl g_Un_0 rfl hl.1 rfl (Nat.le_of_ble_eq_true rfl) dX8_about_111 ⟨Nat.le_of_ble_eq_true rfl, Nat.le_of_ble_eq_true rfl⟩ ?_
    exact ex_iret hx hb hr hlocks hP hS (Nat.le_of_ble_eq_true rfl) (Nat.le_of_ble_eq_true rfl) dX8_about_114 (by rw [m_X8_about, if_neg c_1, if_neg c_2, if_neg c_3, if_neg c_4, if_pos c_5]) (by rw [m_X8_about, if_neg c_1, if_neg c_2, if_neg c_3, if_neg c_4, if_pos c_5]) (by rw [m_X8_about, if_neg c_1, if_neg c_2, if_neg c_3, if_neg c_4, if_pos c_5])
  by_cases c_6 : x1 = (5 : Int32)
  · refine lv_tableIn (tgt := 115) hx hb dX8_about_1 (by rw [c_6]; decide) (by rw [c_6]; decide) (by rw [c_6]; rfl) (by decide) ?_
    refine lv_aload_n hx hb dX8_about_115 rfl (lv_at hl 0 rfl) ?_
    refine va_get (D := D) (ci := 6) (v := .ref (na 0)) (C := RX8) (T := TX8) (N := 6) hx hb hts in_X8 hown hG.1 hP 0 g_Sp_0 rfl 1 (by decide) k_0 (fun _ h9 => h9) rfl dX8_about_116 ?_
    refine va_getN (D := D) (ci := 3) (v := .ref (na 7)) (C := RX5) (T := TX5) (N := 9) hx hb hts in_X5 hown hG.1 hP 50 g_Sp_50 rfl 1 (by decide) (va_Nw.use rfl (nw_X8_127 hG.2)) (fun _ h9 => h9) rfl dX8_about_119 ?_
    refine roVN (wc := (wCo cy (na 7) (na 8) (na 9) (na 10) (sC (pN z)))) (As := []) (rest := []) (c_X0_all l D cy (na 7) (na 8) (na 9) (na 10) (sC (pN z)) hN.2) hCF gX8_about_X0_all_n131 (nw_X8_131 hG.2) k_8 k_9 k_10 rfl hd_X0_all ⟨rfl, rfl, Nat.le_of_ble_eq_true rfl, Nat.le_of_ble_eq_true rfl⟩ hG (hP.sub (ws' := (wCo cy (na 7) (na 8) (na 9) (na 10) (sC (pN z)))) [57, 58, 59, 60] u_Sp_Co57) (ci := 0) rfl rfl g_Co_0 rfl hl.1 rfl (Nat.le_of_ble_eq_true rfl) dX8_about_122 ⟨Nat.le_of_ble_eq_true rfl, Nat.le_of_ble_eq_true rfl⟩ ?_
    exact ex_iret hx hb hr hlocks hP hS (Nat.le_of_ble_eq_true rfl) (Nat.le_of_ble_eq_true rfl) dX8_about_125 (by rw [m_X8_about, if_neg c_1, if_neg c_2, if_neg c_3, if_neg c_4, if_neg c_5, if_pos c_6]) (by rw [m_X8_about, if_neg c_1, if_neg c_2, if_neg c_3, if_neg c_4, if_neg c_5, if_pos c_6]) (by rw [m_X8_about, if_neg c_1, if_neg c_2, if_neg c_3, if_neg c_4, if_neg c_5, if_pos c_6])
  by_cases c_7 : x1 = (6 : Int32)
  · refine lv_tableIn (tgt := 126) hx hb dX8_about_1 (by rw [c_7]; decide) (by rw [c_7]; decide) (by rw [c_7]; rfl) (by decide) ?_
    refine lv_aload_n hx hb dX8_about_126 rfl (lv_at hl 0 rfl) ?_
    refine va_get (D := D) (ci := 6) (v := .ref (na 0)) (C := RX8) (T := TX8) (N := 6) hx hb hts in_X8 hown hG.1 hP 0 g_Sp_0 rfl 1 (by decide) k_0 (fun _ h9 => h9) rfl dX8_about_127 ?_
    refine va_getN (D := D) (ci := 3) (v := .ref (na 11)) (C := RX5) (T := TX5) (N := 9) hx hb hts in_X5 hown hG.1 hP 50 g_Sp_50 rfl 2 (by decide) (va_Nw.use rfl (nw_X8_136 hG.2)) (fun _ h9 => h9) rfl dX8_about_130 ?_
    refine roVN (wc := (wDe cy (na 11) (na 12) (sD (pN z)))) (As := []) (rest := []) (c_X1_all l D cy (na 11) (na 12) (sD (pN z))) hCF gX8_about_X1_all_n140 (nw_X8_140 hG.2) k_11 k_12 k_13 rfl hd_X1_all ⟨rfl, rfl, Nat.le_of_ble_eq_true rfl, Nat.le_of_ble_eq_true rfl⟩ hG (hP.sub (ws' := (wDe cy (na 11) (na 12) (sD (pN z)))) [61, 62] u_Sp_De61) (ci := 1) rfl rfl g_De_0 rfl hl.1 rfl (Nat.le_of_ble_eq_true rfl) dX8_about_133 ⟨Nat.le_of_ble_eq_true rfl, Nat.le_of_ble_eq_true rfl⟩ ?_
    exact ex_iret hx hb hr hlocks hP hS (Nat.le_of_ble_eq_true rfl) (Nat.le_of_ble_eq_true rfl) dX8_about_136 (by rw [m_X8_about, if_neg c_1, if_neg c_2, if_neg c_3, if_neg c_4, if_neg c_5, if_neg c_6, if_pos c_7]) (by rw [m_X8_about, if_neg c_1, if_neg c_2, if_neg c_3, if_neg c_4, if_neg c_5, if_neg c_6, if_pos c_7]) (by rw [m_X8_about, if_neg c_1, if_neg c_2, if_neg c_3, if_neg c_4, if_neg c_5, if_neg c_6, if_pos c_7])
  by_cases c_8 : x1 = (7 : Int32)
  · refine lv_tableIn (tgt := 137) hx hb dX8_about_1 (by rw [c_8]; decide) (by rw [c_8]; decide) (by rw [c_8]; rfl) (by decide) ?_
    refine lv_aload_n hx hb dX8_about_137 rfl (lv_at hl 0 rfl) ?_
    refine va_get (D := D) (ci := 6) (v := .ref (na 0)) (C := RX8) (T := TX8) (N := 6) hx hb hts in_X8 hown hG.1 hP 0 g_Sp_0 rfl 1 (by decide) k_0 (fun _ h9 => h9) rfl dX8_about_138 ?_
    refine va_getN (D := D) (ci := 3) (v := .int (sK (pN z))) (C := RX5) (T := TX5) (N := 9) hx hb hts in_X5 hown hG.1 hP 50 g_Sp_50 rfl 6 (by decide) (va_Nw.use rfl (nw_X8_143 hG.2)) (fun _ h9 => h9) rfl dX8_about_141 ?_
    exact ex_iret hx hb hr hlocks hP hS (Nat.le_of_ble_eq_true rfl) (Nat.le_of_ble_eq_true rfl) dX8_about_144 (by rw [m_X8_about, if_neg c_1, if_neg c_2, if_neg c_3, if_neg c_4, if_neg c_5, if_neg c_6, if_neg c_7, if_pos c_8]) (by rw [m_X8_about, if_neg c_1, if_neg c_2, if_neg c_3, if_neg c_4, if_neg c_5, if_neg c_6, if_neg c_7, if_pos c_8]) (by rw [m_X8_about, if_neg c_1, if_neg c_2, if_neg c_3, if_neg c_4, if_neg c_5, if_neg c_6, if_neg c_7, if_pos c_8])
  by_cases c_9 : x1 = (8 : Int32)
  · refine lv_tableIn (tgt := 145) hx hb dX8_about_1 (by rw [c_9]; decide) (by rw [c_9]; decide) (by rw [c_9]; rfl) (by decide) ?_
    refine lv_aload_n hx hb dX8_about_145 rfl (lv_at hl 0 rfl) ?_
    refine va_get (D := D) (ci := 6) (v := .ref (na 0)) (C := RX8) (T := TX8) (N := 6) hx hb hts in_X8 hown hG.1 hP 0 g_Sp_0 rfl 1 (by decide) k_0 (fun _ h9 => h9) rfl dX8_about_146 ?_
    refine va_getN (D := D) (ci := 3) (v := .int (sX (pN z))) (C := RX5) (T := TX5) (N := 9) hx hb hts in_X5 hown hG.1 hP 50 g_Sp_50 rfl 7 (by decide) (va_Nw.use rfl (nw_X8_146 hG.2)) (fun _ h9 => h9) rfl dX8_about_149 ?_
    exact ex_iret hx hb hr hlocks hP hS (Nat.le_of_ble_eq_true rfl) (Nat.le_of_ble_eq_true rfl) dX8_about_152 (by rw [m_X8_about, if_neg c_1, if_neg c_2, if_neg c_3, if_neg c_4, if_neg c_5, if_neg c_6, if_neg c_7, if_neg c_8, if_pos c_9]) (by rw [m_X8_about, if_neg c_1, if_neg c_2, if_neg c_3, if_neg c_4, if_neg c_5, if_neg c_6, if_neg c_7, if_neg c_8, if_pos c_9]) (by rw [m_X8_about, if_neg c_1, if_neg c_2, if_neg c_3, if_neg c_4, if_neg c_5, if_neg c_6, if_neg c_7, if_neg c_8, if_pos c_9])
  by_cases c_10 : x1 = (9 : Int32)
  · refine lv_tableIn (tgt := 153) hx hb dX8_about_1 (by rw [c_10]; decide) (by rw [c_10]; decide) (by rw [c_10]; rfl) (by decide) ?_
    refine lv_aload_n hx hb dX8_about_153 rfl (lv_at hl 0 rfl) ?_
    refine va_get (D := D) (ci := 6) (v := .ref (na 0)) (C := RX8) (T := TX8) (N := 6) hx hb hts in_X8 hown hG.1 hP 0 g_Sp_0 rfl 1 (by decide) k_0 (fun _ h9 => h9) rfl dX8_about_154 ?_
    refine va_getN (D := D) (ci := 3) (v := .int (sO (pN z))) (C := RX5) (T := TX5) (N := 9) hx hb hts in_X5 hown hG.1 hP 50 g_Sp_50 rfl 8 (by decide) (va_Nw.use rfl (nw_X8_149 hG.2)) (fun _ h9 => h9) rfl dX8_about_157 ?_
    exact ex_iret hx hb hr hlocks hP hS (Nat.le_of_ble_eq_true rfl) (Nat.le_of_ble_eq_true rfl) dX8_about_160 (by rw [m_X8_about, if_neg c_1, if_neg c_2, if_neg c_3, if_neg c_4, if_neg c_5, if_neg c_6, if_neg c_7, if_neg c_8, if_neg c_9, if_pos c_10]) (by rw [m_X8_about, if_neg c_1, if_neg c_2, if_neg c_3, if_neg c_4, if_neg c_5, if_neg c_6, if_neg c_7, if_neg c_8, if_neg c_9, if_pos c_10]) (by rw [m_X8_about, if_neg c_1, if_neg c_2, if_neg c_3, if_neg c_4, if_neg c_5, if_neg c_6, if_neg c_7, if_neg c_8, if_neg c_9, if_pos c_10])
  · refine lv_tableOut (tgt := 161) hx hb dX8_about_1 (by have q_1 := lv_neT (a := 0) c_1 rfl; have q_2 := lv_neT (a := 1) c_2 rfl; have q_3 := lv_neT (a := 2) c_3 rfl; have q_4 := lv_neT (a := 3) c_4 rfl; have q_5 := lv_neT (a := 4) c_5 rfl; have q_6 := lv_neT (a := 5) c_6 rfl; have q_7 := lv_neT (a := 6) c_7 rfl; have q_8 := lv_neT (a := 7) c_8 rfl; have q_9 := lv_neT (a := 8) c_9 rfl; have q_10 := lv_neT (a := 9) c_10 rfl; omega) (by decide) ?_
    exact ex_thr (i := 2) (ik := 41) (ic := 43) hx hb hl0 hown (hts (Cond.classLink RX8 41 "java/lang/IllegalArgumentException") (List.mem_of_getElem? (i := 1) rfl)) (hts (Cond.initialized "java/lang/IllegalArgumentException") (List.mem_of_getElem? (i := 2) rfl)) (by decide) (fun w h => hts w (List.mem_cons_of_mem _ (List.mem_append_right _ h))) (by decide +kernel) (by decide +kernel) hF hS hP (hl.1.trans hml.symm) dX8_about_161 dX8_about_164 dX8_about_165 dX8_about_168 hnx (Nat.le_of_ble_eq_true rfl) (Nat.le_of_ble_eq_true rfl) (Nat.le_of_ble_eq_true rfl) (Nat.le_of_ble_eq_true rfl) hlocks (Nat.le_of_ble_eq_true rfl) (Nat.le_of_ble_eq_true rfl) (by rw [m_X8_about, if_neg c_1, if_neg c_2, if_neg c_3, if_neg c_4, if_neg c_5, if_neg c_6, if_neg c_7, if_neg c_8, if_neg c_9, if_neg c_10]) (by decide) (by rw [m_X8_about, if_neg c_1, if_neg c_2, if_neg c_3, if_neg c_4, if_neg c_5, if_neg c_6, if_neg c_7, if_neg c_8, if_neg c_9, if_neg c_10])
def m_X8_unit (z : SpT) (x1 : Int32) (x2 : Int32) : Nat × Int32 × SpT := if (m_X7_has (sU (pN z)) x1) = (0 : Int32) then (1, (0 : Int32), z) else if x2 = (0 : Int32) then (0, (uK (sU (pN z))) x1.toNatClampNeg, z) else if x2 = (1 : Int32) then (0, (uO (sU (pN z))) x1.toNatClampNeg, z) else if x2 = (2 : Int32) then (0, (uP (sU (pN z))) x1.toNatClampNeg, z) else if x2 = (3 : Int32) then (0, (uQ (sU (pN z))) x1.toNatClampNeg, z) else if x2 = (4 : Int32) then (0, (uD (sU (pN z))) x1.toNatClampNeg, z) else if x2 = (5 : Int32) then (0, m_X5_feesFor (pN z) x1 (0 : Int32), z) else (2, (0 : Int32), z)
theorem hd_X8_unit : yX8_unit.cls = RX8 ∧ yX8_unit.cls ≠ "java/lang/invoke/MethodHandle" ∧ yX8_unit.cls ≠ "java/lang/invoke/VarHandle" ∧ (parseMethodDescriptor yX8_unit.desc).map (fun d => d.parameters.length) = some 2 := by decide +kernel
set_option maxHeartbeats 8000000 in
set_option maxRecDepth 20000 in
theorem c_X8_unit (l : Launch) (hl0 : l.stackTraces = false) (D : va_G) (cy : Nat → ClassId) (t : FxA) (xa sa sb tr na : Nat → Nat) (ka : Nat → Nat → Nat) (z : SpT) (x1 : Int32) (x2 : Int32) (hN : stOK (pN z)) : EX l D cy t yX8_unit wsX8_unit ({ frames := 6, cells := 1, slots := 6, locals := 81 } : Room) (wSp cy xa sa sb tr na ka z) (wSp cy xa sa sb tr na ka (m_X8_unit z x1 x2).2.2) [.ref (xa 0), .int x1, .int x2] 1 6 (m_X8_unit z x1 x2).1 (m_X8_unit z x1 x2).2.1 := by
  refine EX.body (by decide) rfl (Nat.le_of_ble_eq_true rfl) ?_
  intro p e s m below meth c hx hb hml hnx hr hts hown hlocks hP hG ls hl A hD hA hS hF
  have hl : lv_has ls 3 [(0, .ref (xa 0)), (1, .int x1), (2, .int x2)] := hl
  have hCF : CallFix p m c cX8_unit 3 s ([.ref (xa 0), .int x1, .int x2] : List Value).toArray wsX8_unit RX8 := ⟨hx, hb, hml, hown, hts⟩
  have in_X5 : ∀ w ∈ u_ws RX5 TX5 9, w ∈ wsX8_unit := fun _ h => List.mem_cons_of_mem _ (List.mem_append_left _ (List.mem_append_left _ (List.mem_append_left _ (List.mem_append_right _ h))))
  have in_X7 : ∀ w ∈ u_ws RX7 TX7 6, w ∈ wsX8_unit := fun _ h => List.mem_cons_of_mem _ (List.mem_append_left _ (List.mem_append_left _ (List.mem_append_right _ h)))
  have in_X8 : ∀ w ∈ u_ws RX8 TX8 6, w ∈ wsX8_unit := fun _ h => List.mem_cons_of_mem _ (List.mem_append_left _ (List.mem_append_left _ (List.mem_append_left _ (List.mem_append_left _ (List.mem_append_right _ h)))))
  have k_0 := hts (Cond.fieldLink RX8 19 "SparePool" "now" "LSparePool$State;") (List.mem_of_getElem? (i := 5) rfl)
  have k_1 := hts (Cond.initialized RX7) (List.mem_of_getElem? (i := 7) rfl)
  have k_2 := hts (Cond.instanceMethod yX7_has) (List.mem_of_getElem? (i := 6) rfl)
  have k_3 := hts (Cond.selects RX7 yX7_has yX7_has) (List.mem_of_getElem? (i := 8) rfl)
  have k_4 := hts (Cond.initialized RX5) (List.mem_of_getElem? (i := 12) rfl)
  have k_5 := hts (Cond.instanceMethod yX5_feesFor) (List.mem_of_getElem? (i := 11) rfl)
  have k_6 := hts (Cond.selects RX5 yX5_feesFor yX5_feesFor) (List.mem_of_getElem? (i := 13) rfl)
  have hP : va_P D vwCl (wSp cy xa sa sb tr na ka z) s.heap := hP
  refine lv_aload_n hx hb dX8_unit_0 rfl (lv_at hl 0 rfl) ?_
  refine va_get (D := D) (ci := 6) (v := .ref (na 0)) (C := RX8) (T := TX8) (N := 6) hx hb hts in_X8 hown hG.1 hP 0 g_Sp_0 rfl 1 (by decide) k_0 (fun _ h9 => h9) rfl dX8_unit_1 ?_
  refine va_getN (D := D) (ci := 3) (v := .ref (na 1)) (C := RX5) (T := TX5) (N := 9) hx hb hts in_X5 hown hG.1 hP 50 g_Sp_50 rfl 0 (by decide) (va_Nw.use rfl (nw_X8_109 hG.2)) (fun _ h9 => h9) rfl dX8_unit_4 ?_
  refine lv_iload_n hx hb dX8_unit_7 rfl (lv_at hl 1 rfl) ?_
  refine roVN (wc := (wUn cy (na 1) (na 2) (na 3) (na 4) (na 5) (na 6) (sU (pN z)))) (As := [.int x1]) (rest := []) (c_X7_has l D cy (na 1) (na 2) (na 3) (na 4) (na 5) (na 6) (sU (pN z)) x1 hN.1) hCF gX8_unit_X7_has_n152 (nw_X8_152 hG.2) k_1 k_2 k_3 rfl hd_X7_has ⟨rfl, rfl, Nat.le_of_ble_eq_true rfl, Nat.le_of_ble_eq_true rfl⟩ hG (hP.sub (ws' := (wUn cy (na 1) (na 2) (na 3) (na 4) (na 5) (na 6) (sU (pN z)))) [51, 52, 53, 54, 55, 56] u_Sp_Un51) (ci := 5) rfl rfl g_Un_0 rfl hl.1 rfl (Nat.le_of_ble_eq_true rfl) dX8_unit_8 ⟨Nat.le_of_ble_eq_true rfl, Nat.le_of_ble_eq_true rfl⟩ ?_
  refine lv_if_ne (tgt := 22) hx hb dX8_unit_11 (by decide) (fun c_1 => ?_) (fun c_1 => ?_)
  · skip
    refine lv_iload_n hx hb dX8_unit_22 rfl (lv_at hl 2 rfl) ?_
    by_cases c_2 : x2 = (0 : Int32)
    · refine lv_tableIn (tgt := 60) hx hb dX8_unit_23 (by rw [c_2]; decide) (by rw [c_2]; decide) (by rw [c_2]; rfl) (by decide) ?_
      refine lv_aload_n hx hb dX8_unit_60 rfl (lv_at hl 0 rfl) ?_
      refine va_get (D := D) (ci := 6) (v := .ref (na 0)) (C := RX8) (T := TX8) (N := 6) hx hb hts in_X8 hown hG.1 hP 0 g_Sp_0 rfl 1 (by decide) k_0 (fun _ h9 => h9) rfl dX8_unit_61 ?_
      refine va_getN (D := D) (ci := 3) (v := .ref (na 1)) (C := RX5) (T := TX5) (N := 9) hx hb hts in_X5 hown hG.1 hP 50 g_Sp_50 rfl 0 (by decide) (va_Nw.use rfl (nw_X8_109 hG.2)) (fun _ h9 => h9) rfl dX8_unit_64 ?_
      refine va_getN (D := D) (ci := 5) (v := .ref (na 2)) (C := RX7) (T := TX7) (N := 6) hx hb hts in_X7 hown hG.1 hP 51 g_Sp_51 rfl 0 (by decide) (va_Nw.use rfl (nw_X8_159 hG.2)) (fun _ h9 => h9) rfl dX8_unit_67 ?_
      refine lv_iload_n hx hb dX8_unit_70 rfl (lv_at hl 1 rfl) ?_
      refine va_iald hx hb hG.1 hP 52 0 (n := 16) (f := (uK (sU (pN z)))) g_Sp_52 rfl (bd_has hN.1 c_1) dX8_unit_71 ?_
      exact ex_iret hx hb hr hlocks hP hS (Nat.le_of_ble_eq_true rfl) (Nat.le_of_ble_eq_true rfl) dX8_unit_72 (by rw [m_X8_unit, if_neg c_1, if_pos c_2]) (by rw [m_X8_unit, if_neg c_1, if_pos c_2]) (by rw [m_X8_unit, if_neg c_1, if_pos c_2])
    by_cases c_3 : x2 = (1 : Int32)
    · refine lv_tableIn (tgt := 73) hx hb dX8_unit_23 (by rw [c_3]; decide) (by rw [c_3]; decide) (by rw [c_3]; rfl) (by decide) ?_
      refine lv_aload_n hx hb dX8_unit_73 rfl (lv_at hl 0 rfl) ?_
      refine va_get (D := D) (ci := 6) (v := .ref (na 0)) (C := RX8) (T := TX8) (N := 6) hx hb hts in_X8 hown hG.1 hP 0 g_Sp_0 rfl 1 (by decide) k_0 (fun _ h9 => h9) rfl dX8_unit_74 ?_
      refine va_getN (D := D) (ci := 3) (v := .ref (na 1)) (C := RX5) (T := TX5) (N := 9) hx hb hts in_X5 hown hG.1 hP 50 g_Sp_50 rfl 0 (by decide) (va_Nw.use rfl (nw_X8_109 hG.2)) (fun _ h9 => h9) rfl dX8_unit_77 ?_
      refine va_getN (D := D) (ci := 5) (v := .ref (na 3)) (C := RX7) (T := TX7) (N := 6) hx hb hts in_X7 hown hG.1 hP 51 g_Sp_51 rfl 1 (by decide) (va_Nw.use rfl (nw_X8_163 hG.2)) (fun _ h9 => h9) rfl dX8_unit_80 ?_
      refine lv_iload_n hx hb dX8_unit_83 rfl (lv_at hl 1 rfl) ?_
      refine va_iald hx hb hG.1 hP 53 0 (n := 16) (f := (uO (sU (pN z)))) g_Sp_53 rfl (bd_has hN.1 c_1) dX8_unit_84 ?_
      exact ex_iret hx hb hr hlocks hP hS (Nat.le_of_ble_eq_true rfl) (Nat.le_of_ble_eq_true rfl) dX8_unit_85 (by rw [m_X8_unit, if_neg c_1, if_neg c_2, if_pos c_3]) (by rw [m_X8_unit, if_neg c_1, if_neg c_2, if_pos c_3]) (by rw [m_X8_unit, if_neg c_1, if_neg c_2, if_pos c_3])
    by_cases c_4 : x2 = (2 : Int32)
    · refine lv_tableIn (tgt := 86) hx hb dX8_unit_23 (by rw [c_4]; decide) (by rw [c_4]; decide) (by rw [c_4]; rfl) (by decide) ?_
      refine lv_aload_n hx hb dX8_unit_86 rfl (lv_at hl 0 rfl) ?_
      refine va_get (D := D) (ci := 6) (v := .ref (na 0)) (C := RX8) (T := TX8) (N := 6) hx hb hts in_X8 hown hG.1 hP 0 g_Sp_0 rfl 1 (by decide) k_0 (fun _ h9 => h9) rfl dX8_unit_87 ?_
      refine va_getN (D := D) (ci := 3) (v := .ref (na 1)) (C := RX5) (T := TX5) (N := 9) hx hb hts in_X5 hown hG.1 hP 50 g_Sp_50 rfl 0 (by decide) (va_Nw.use rfl (nw_X8_109 hG.2)) (fun _ h9 => h9) rfl dX8_unit_90 ?_
      refine va_getN (D := D) (ci := 5) (v := .ref (na 4)) (C := RX7) (T := TX7) (N := 6) hx hb hts in_X7 hown hG.1 hP 51 g_Sp_51 rfl 2 (by decide) (va_Nw.use rfl (nw_X8_166 hG.2)) (fun _ h9 => h9) rfl dX8_unit_93 ?_
      refine lv_iload_n hx hb dX8_unit_96 rfl (lv_at hl 1 rfl) ?_
      refine va_iald hx hb hG.1 hP 54 0 (n := 16) (f := (uP (sU (pN z)))) g_Sp_54 rfl (bd_has hN.1 c_1) dX8_unit_97 ?_
      exact ex_iret hx hb hr hlocks hP hS (Nat.le_of_ble_eq_true rfl) (Nat.le_of_ble_eq_true rfl) dX8_unit_98 (by rw [m_X8_unit, if_neg c_1, if_neg c_2, if_neg c_3, if_pos c_4]) (by rw [m_X8_unit, if_neg c_1, if_neg c_2, if_neg c_3, if_pos c_4]) (by rw [m_X8_unit, if_neg c_1, if_neg c_2, if_neg c_3, if_pos c_4])
    by_cases c_5 : x2 = (3 : Int32)
    · refine lv_tableIn (tgt := 99) hx hb dX8_unit_23 (by rw [c_5]; decide) (by rw [c_5]; decide) (by rw [c_5]; rfl) (by decide) ?_
      refine lv_aload_n hx hb dX8_unit_99 rfl (lv_at hl 0 rfl) ?_
      refine va_get (D := D) (ci := 6) (v := .ref (na 0)) (C := RX8) (T := TX8) (N := 6) hx hb hts in_X8 hown hG.1 hP 0 g_Sp_0 rfl 1 (by decide) k_0 (fun _ h9 => h9) rfl dX8_unit_100 ?_
      refine va_getN (D := D) (ci := 3) (v := .ref (na 1)) (C := RX5) (T := TX5) (N := 9) hx hb hts in_X5 hown hG.1 hP 50 g_Sp_50 rfl 0 (by decide) (va_Nw.use rfl (nw_X8_109 hG.2)) (fun _ h9 => h9) rfl dX8_unit_103 ?_
      refine va_getN (D := D) (ci := 5) (v := .ref (na 5)) (C := RX7) (T := TX7) (N := 6) hx hb hts in_X7 hown hG.1 hP 51 g_Sp_51 rfl 3 (by decide) (va_Nw.use rfl (nw_X8_169 hG.2)) (fun _ h9 => h9) rfl dX8_unit_106 ?_
      refine lv_iload_n hx hb dX8_unit_109 rfl (lv_at hl 1 rfl) ?_
      refine va_iald hx hb hG.1 hP 55 0 (n := 16) (f := (uQ (sU (pN z)))) g_Sp_55 rfl (bd_has hN.1 c_1) dX8_unit_110 ?_
      exact ex_iret hx hb hr hlocks hP hS (Nat.le_of_ble_eq_true rfl) (Nat.le_of_ble_eq_true rfl) dX8_unit_111 (by rw [m_X8_unit, if_neg c_1, if_neg c_2, if_neg c_3, if_neg c_4, if_pos c_5]) (by rw [m_X8_unit, if_neg c_1, if_neg c_2, if_neg c_3, if_neg c_4, if_pos c_5]) (by rw [m_X8_unit, if_neg c_1, if_neg c_2, if_neg c_3, if_neg c_4, if_pos c_5])
    by_cases c_6 : x2 = (4 : Int32)
    · refine lv_tableIn (tgt := 112) hx hb dX8_unit_23 (by rw [c_6]; decide) (by rw [c_6]; decide) (by rw [c_6]; rfl) (by decide) ?_
      refine lv_aload_n hx hb dX8_unit_112 rfl (lv_at hl 0 rfl) ?_
      refine va_get (D := D) (ci := 6) (v := .ref (na 0)) (C := RX8) (T := TX8) (N := 6) hx hb hts in_X8 hown hG.1 hP 0 g_Sp_0 rfl 1 (by decide) k_0 (fun _ h9 => h9) rfl dX8_unit_113 ?_
      refine va_getN (D := D) (ci := 3) (v := .ref (na 1)) (C := RX5) (T := TX5) (N := 9) hx hb hts in_X5 hown hG.1 hP 50 g_Sp_50 rfl 0 (by decide) (va_Nw.use rfl (nw_X8_109 hG.2)) (fun _ h9 => h9) rfl dX8_unit_116 ?_
      refine va_getN (D := D) (ci := 5) (v := .ref (na 6)) (C := RX7) (T := TX7) (N := 6) hx hb hts in_X7 hown hG.1 hP 51 g_Sp_51 rfl 4 (by decide) (va_Nw.use rfl (nw_X8_172 hG.2)) (fun _ h9 => h9) rfl dX8_unit_119 ?_
      refine lv_iload_n hx hb dX8_unit_122 rfl (lv_at hl 1 rfl) ?_
      refine va_iald hx hb hG.1 hP 56 0 (n := 16) (f := (uD (sU (pN z)))) g_Sp_56 rfl (bd_has hN.1 c_1) dX8_unit_123 ?_
      exact ex_iret hx hb hr hlocks hP hS (Nat.le_of_ble_eq_true rfl) (Nat.le_of_ble_eq_true rfl) dX8_unit_124 (by rw [m_X8_unit, if_neg c_1, if_neg c_2, if_neg c_3, if_neg c_4, if_neg c_5, if_pos c_6]) (by rw [m_X8_unit, if_neg c_1, if_neg c_2, if_neg c_3, if_neg c_4, if_neg c_5, if_pos c_6]) (by rw [m_X8_unit, if_neg c_1, if_neg c_2, if_neg c_3, if_neg c_4, if_neg c_5, if_pos c_6])
    by_cases c_7 : x2 = (5 : Int32)
    · refine lv_tableIn (tgt := 125) hx hb dX8_unit_23 (by rw [c_7]; decide) (by rw [c_7]; decide) (by rw [c_7]; rfl) (by decide) ?_
      refine lv_aload_n hx hb dX8_unit_125 rfl (lv_at hl 0 rfl) ?_
      refine va_get (D := D) (ci := 6) (v := .ref (na 0)) (C := RX8) (T := TX8) (N := 6) hx hb hts in_X8 hown hG.1 hP 0 g_Sp_0 rfl 1 (by decide) k_0 (fun _ h9 => h9) rfl dX8_unit_126 ?_
      refine lv_iload_n hx hb dX8_unit_129 rfl (lv_at hl 1 rfl) ?_
      refine lv_iconst (v := (0 : Int32)) hx hb dX8_unit_130 (by decide) ?_
      refine roVN (wc := (wSt cy na (pN z))) (As := [.int x1, .int (0 : Int32)]) (rest := []) (c_X5_feesFor l D cy na (pN z) x1 (0 : Int32) hN) hCF gX8_unit_X5_feesFor_n175 (nw_X8_175 hG.2) k_4 k_5 k_6 rfl hd_X5_feesFor ⟨rfl, rfl, Nat.le_of_ble_eq_true rfl, Nat.le_of_ble_eq_true rfl⟩ hG (hP.sub (ws' := (wSt cy na (pN z))) [50, 51, 52, 53, 54, 55, 56, 57, 58, 59, 60, 61, 62, 63, 64] u_Sp_St50) (ci := 3) rfl rfl g_St_0 rfl hl.1 rfl (Nat.le_of_ble_eq_true rfl) dX8_unit_131 ⟨Nat.le_of_ble_eq_true rfl, Nat.le_of_ble_eq_true rfl⟩ ?_
      exact ex_iret hx hb hr hlocks hP hS (Nat.le_of_ble_eq_true rfl) (Nat.le_of_ble_eq_true rfl) dX8_unit_134 (by rw [m_X8_unit, if_neg c_1, if_neg c_2, if_neg c_3, if_neg c_4, if_neg c_5, if_neg c_6, if_pos c_7]) (by rw [m_X8_unit, if_neg c_1, if_neg c_2, if_neg c_3, if_neg c_4, if_neg c_5, if_neg c_6, if_pos c_7]) (by rw [m_X8_unit, if_neg c_1, if_neg c_2, if_neg c_3, if_neg c_4, if_neg c_5, if_neg c_6, if_pos c_7])
    · refine lv_tableOut (tgt := 135) hx hb dX8_unit_23 (by have q_2 := lv_neT (a := 0) c_2 rfl; have q_3 := lv_neT (a := 1) c_3 rfl; have q_4 := lv_neT (a := 2) c_4 rfl; have q_5 := lv_neT (a := 3) c_5 rfl; have q_6 := lv_neT (a := 4) c_6 rfl; have q_7 := lv_neT (a := 5) c_7 rfl; omega) (by decide) ?_
      exact ex_thr (i := 2) (ik := 41) (ic := 43) hx hb hl0 hown (hts (Cond.classLink RX8 41 "java/lang/IllegalArgumentException") (List.mem_of_getElem? (i := 3) rfl)) (hts (Cond.initialized "java/lang/IllegalArgumentException") (List.mem_of_getElem? (i := 4) rfl)) (by decide) (fun w h => hts w (List.mem_cons_of_mem _ (List.mem_append_right _ h))) (by decide +kernel) (by decide +kernel) hF hS hP (hl.1.trans hml.symm) dX8_unit_135 dX8_unit_138 dX8_unit_139 dX8_unit_142 hnx (Nat.le_of_ble_eq_true rfl) (Nat.le_of_ble_eq_true rfl) (Nat.le_of_ble_eq_true rfl) (Nat.le_of_ble_eq_true rfl) hlocks (Nat.le_of_ble_eq_true rfl) (Nat.le_of_ble_eq_true rfl) (by rw [m_X8_unit, if_neg c_1, if_neg c_2, if_neg c_3, if_neg c_4, if_neg c_5, if_neg c_6, if_neg c_7]) (by decide) (by rw [m_X8_unit, if_neg c_1, if_neg c_2, if_neg c_3, if_neg c_4, if_neg c_5, if_neg c_6, if_neg c_7])
  · skip
    exact ex_thr (i := 1) (ik := 156) (ic := 158) hx hb hl0 hown (hts (Cond.classLink RX8 156 "java/lang/IndexOutOfBoundsException") (List.mem_of_getElem? (i := 1) rfl)) (hts (Cond.initialized "java/lang/IndexOutOfBoundsException") (List.mem_of_getElem? (i := 2) rfl)) (by decide) (fun w h => hts w (List.mem_cons_of_mem _ (List.mem_append_left _ (List.mem_append_right _ h)))) (by decide +kernel) (by decide +kernel) hF hS hP (hl.1.trans hml.symm) dX8_unit_14 dX8_unit_17 dX8_unit_18 dX8_unit_21 hnx (Nat.le_of_ble_eq_true rfl) (Nat.le_of_ble_eq_true rfl) (Nat.le_of_ble_eq_true rfl) (Nat.le_of_ble_eq_true rfl) hlocks (Nat.le_of_ble_eq_true rfl) (Nat.le_of_ble_eq_true rfl) (by rw [m_X8_unit, if_pos c_1]) (by decide) (by rw [m_X8_unit, if_pos c_1])
def m_X8_holder (z : SpT) (x1 : Int32) (x2 : Int32) : Nat × Int32 × SpT := if (m_X8_isHolder x1) = (0 : Int32) then (1, (0 : Int32), z) else if x2 = (0 : Int32) then (0, (sA (pN z)) x1.toNatClampNeg, z) else if x2 = (1 : Int32) then (0, m_X7_ownedBy (sU (pN z)) x1, z) else if x2 = (2 : Int32) then (0, m_X7_placedAt (sU (pN z)) x1, z) else if x2 = (3 : Int32) then (0, m_X7_borrowedBy (sU (pN z)) x1, z) else if x2 = (4 : Int32) then (0, (cC (sC (pN z))) x1.toNatClampNeg, z) else if x2 = (5 : Int32) then (0, m_X1_owedBy (sD (pN z)) x1, z) else if x2 = (6 : Int32) then (0, m_X1_owedTo (sD (pN z)) x1, z) else (2, (0 : Int32), z)
theorem hd_X8_holder : yX8_holder.cls = RX8 ∧ yX8_holder.cls ≠ "java/lang/invoke/MethodHandle" ∧ yX8_holder.cls ≠ "java/lang/invoke/VarHandle" ∧ (parseMethodDescriptor yX8_holder.desc).map (fun d => d.parameters.length) = some 2 := by decide +kernel
set_option maxHeartbeats 8000000 in
set_option maxRecDepth 20000 in
theorem c_X8_holder (l : Launch) (hl0 : l.stackTraces = false) (D : va_G) (cy : Nat → ClassId) (t : FxA) (xa sa sb tr na : Nat → Nat) (ka : Nat → Nat → Nat) (z : SpT) (x1 : Int32) (x2 : Int32) (hN : stOK (pN z)) : EX l D cy t yX8_holder wsX8_holder ({ frames := 6, cells := 1, slots := 6, locals := 81 } : Room) (wSp cy xa sa sb tr na ka z) (wSp cy xa sa sb tr na ka (m_X8_holder z x1 x2).2.2) [.ref (xa 0), .int x1, .int x2] 1 6 (m_X8_holder z x1 x2).1 (m_X8_holder z x1 x2).2.1 := by
  refine EX.body (by decide) rfl (Nat.le_of_ble_eq_true rfl) ?_
  intro p e s m below meth c hx hb hml hnx hr hts hown hlocks hP hG ls hl A hD hA hS hF
  have hl : lv_has ls 3 [(0, .ref (xa 0)), (1, .int x1), (2, .int x2)] := hl
  have hCF : CallFix p m c cX8_holder 3 s ([.ref (xa 0), .int x1, .int x2] : List Value).toArray wsX8_holder RX8 := ⟨hx, hb, hml, hown, hts⟩
  have in_X0 : ∀ w ∈ u_ws RX0 TX0 3, w ∈ wsX8_holder := fun _ h => List.mem_cons_of_mem _ (List.mem_append_left _ (List.mem_append_left _ (List.mem_append_left _ (List.mem_append_left _ (List.mem_append_right _ h)))))
  have in_X5 : ∀ w ∈ u_ws RX5 TX5 9, w ∈ wsX8_holder := fun _ h => List.mem_cons_of_mem _ (List.mem_append_left _ (List.mem_append_left _ (List.mem_append_left _ (List.mem_append_left _ (List.mem_append_left _ (List.mem_append_right _ h))))))
  have in_X8 : ∀ w ∈ u_ws RX8 TX8 6, w ∈ wsX8_holder := fun _ h => List.mem_cons_of_mem _ (List.mem_append_left _ (List.mem_append_left _ (List.mem_append_left _ (List.mem_append_left _ (List.mem_append_left _ (List.mem_append_left _ (List.mem_append_right _ h)))))))
  have k_0 := hts (Cond.fieldLink RX8 19 "SparePool" "now" "LSparePool$State;") (List.mem_of_getElem? (i := 5) rfl)
  have k_1 := hts (Cond.initialized RX7) (List.mem_of_getElem? (i := 11) rfl)
  have k_2 := hts (Cond.instanceMethod yX7_ownedBy) (List.mem_of_getElem? (i := 10) rfl)
  have k_3 := hts (Cond.selects RX7 yX7_ownedBy yX7_ownedBy) (List.mem_of_getElem? (i := 12) rfl)
  have k_4 := hts (Cond.instanceMethod yX7_placedAt) (List.mem_of_getElem? (i := 16) rfl)
  have k_5 := hts (Cond.selects RX7 yX7_placedAt yX7_placedAt) (List.mem_of_getElem? (i := 17) rfl)
  have k_6 := hts (Cond.instanceMethod yX7_borrowedBy) (List.mem_of_getElem? (i := 20) rfl)
  have k_7 := hts (Cond.selects RX7 yX7_borrowedBy yX7_borrowedBy) (List.mem_of_getElem? (i := 21) rfl)
  have k_8 := hts (Cond.initialized RX1) (List.mem_of_getElem? (i := 24) rfl)
  have k_9 := hts (Cond.instanceMethod yX1_owedBy) (List.mem_of_getElem? (i := 23) rfl)
  have k_10 := hts (Cond.selects RX1 yX1_owedBy yX1_owedBy) (List.mem_of_getElem? (i := 25) rfl)
  have k_11 := hts (Cond.instanceMethod yX1_owedTo) (List.mem_of_getElem? (i := 32) rfl)
  have k_12 := hts (Cond.selects RX1 yX1_owedTo yX1_owedTo) (List.mem_of_getElem? (i := 33) rfl)
  have hP : va_P D vwCl (wSp cy xa sa sb tr na ka z) s.heap := hP
  refine lv_iload_n hx hb dX8_holder_0 rfl (lv_at hl 1 rfl) ?_
  refine roS (wc := ([] : va_W)) (As := [.int x1]) (rest := []) (c_X8_isHolder l D cy x1) hCF gX8_holder_X8_isHolder rfl hd_X8_isHolder ⟨rfl, rfl, Nat.le_of_ble_eq_true rfl, Nat.le_of_ble_eq_true rfl⟩ hG va_P_nil rfl hl.1 rfl (Nat.le_of_ble_eq_true rfl) dX8_holder_1 ⟨Nat.le_of_ble_eq_true rfl, Nat.le_of_ble_eq_true rfl⟩ ?_
  refine lv_if_ne (tgt := 15) hx hb dX8_holder_4 (by decide) (fun c_1 => ?_) (fun c_1 => ?_)
  · skip
    refine lv_iload_n hx hb dX8_holder_15 rfl (lv_at hl 2 rfl) ?_
    by_cases c_2 : x2 = (0 : Int32)
    · refine lv_tableIn (tgt := 60) hx hb dX8_holder_16 (by rw [c_2]; decide) (by rw [c_2]; decide) (by rw [c_2]; rfl) (by decide) ?_
      refine lv_aload_n hx hb dX8_holder_60 rfl (lv_at hl 0 rfl) ?_
      refine va_get (D := D) (ci := 6) (v := .ref (na 0)) (C := RX8) (T := TX8) (N := 6) hx hb hts in_X8 hown hG.1 hP 0 g_Sp_0 rfl 1 (by decide) k_0 (fun _ h9 => h9) rfl dX8_holder_61 ?_
      refine va_getN (D := D) (ci := 3) (v := .ref (na 13)) (C := RX5) (T := TX5) (N := 9) hx hb hts in_X5 hown hG.1 hP 50 g_Sp_50 rfl 3 (by decide) (va_Nw.use rfl (nw_X8_181 hG.2)) (fun _ h9 => h9) rfl dX8_holder_64 ?_
      refine lv_iload_n hx hb dX8_holder_67 rfl (lv_at hl 1 rfl) ?_
      refine va_iald hx hb hG.1 hP 63 0 (n := 5) (f := (sA (pN z))) g_Sp_63 rfl (bd_isHolder c_1) dX8_holder_68 ?_
      exact ex_iret hx hb hr hlocks hP hS (Nat.le_of_ble_eq_true rfl) (Nat.le_of_ble_eq_true rfl) dX8_holder_69 (by rw [m_X8_holder, if_neg c_1, if_pos c_2]) (by rw [m_X8_holder, if_neg c_1, if_pos c_2]) (by rw [m_X8_holder, if_neg c_1, if_pos c_2])
    by_cases c_3 : x2 = (1 : Int32)
    · refine lv_tableIn (tgt := 70) hx hb dX8_holder_16 (by rw [c_3]; decide) (by rw [c_3]; decide) (by rw [c_3]; rfl) (by decide) ?_
      refine lv_aload_n hx hb dX8_holder_70 rfl (lv_at hl 0 rfl) ?_
      refine va_get (D := D) (ci := 6) (v := .ref (na 0)) (C := RX8) (T := TX8) (N := 6) hx hb hts in_X8 hown hG.1 hP 0 g_Sp_0 rfl 1 (by decide) k_0 (fun _ h9 => h9) rfl dX8_holder_71 ?_
      refine va_getN (D := D) (ci := 3) (v := .ref (na 1)) (C := RX5) (T := TX5) (N := 9) hx hb hts in_X5 hown hG.1 hP 50 g_Sp_50 rfl 0 (by decide) (va_Nw.use rfl (nw_X8_109 hG.2)) (fun _ h9 => h9) rfl dX8_holder_74 ?_
      refine lv_iload_n hx hb dX8_holder_77 rfl (lv_at hl 1 rfl) ?_
      refine roVN (wc := (wUn cy (na 1) (na 2) (na 3) (na 4) (na 5) (na 6) (sU (pN z)))) (As := [.int x1]) (rest := []) (c_X7_ownedBy l D cy (na 1) (na 2) (na 3) (na 4) (na 5) (na 6) (sU (pN z)) x1 hN.1) hCF gX8_holder_X7_ownedBy_n184 (nw_X8_184 hG.2) k_1 k_2 k_3 rfl hd_X7_ownedBy ⟨rfl, rfl, Nat.le_of_ble_eq_true rfl, Nat.le_of_ble_eq_true rfl⟩ hG (hP.sub (ws' := (wUn cy (na 1) (na 2) (na 3) (na 4) (na 5) (na 6) (sU (pN z)))) [51, 52, 53, 54, 55, 56] u_Sp_Un51) (ci := 5) rfl rfl g_Un_0 rfl hl.1 rfl (Nat.le_of_ble_eq_true rfl) dX8_holder_78 ⟨Nat.le_of_ble_eq_true rfl, Nat.le_of_ble_eq_true rfl⟩ ?_
      exact ex_iret hx hb hr hlocks hP hS (Nat.le_of_ble_eq_true rfl) (Nat.le_of_ble_eq_true rfl) dX8_holder_81 (by rw [m_X8_holder, if_neg c_1, if_neg c_2, if_pos c_3]) (by rw [m_X8_holder, if_neg c_1, if_neg c_2, if_pos c_3]) (by rw [m_X8_holder, if_neg c_1, if_neg c_2, if_pos c_3])
    by_cases c_4 : x2 = (2 : Int32)
    · refine lv_tableIn (tgt := 82) hx hb dX8_holder_16 (by rw [c_4]; decide) (by rw [c_4]; decide) (by rw [c_4]; rfl) (by decide) ?_
      refine lv_aload_n hx hb dX8_holder_82 rfl (lv_at hl 0 rfl) ?_
      refine va_get (D := D) (ci := 6) (v := .ref (na 0)) (C := RX8) (T := TX8) (N := 6) hx hb hts in_X8 hown hG.1 hP 0 g_Sp_0 rfl 1 (by decide) k_0 (fun _ h9 => h9) rfl dX8_holder_83 ?_
      refine va_getN (D := D) (ci := 3) (v := .ref (na 1)) (C := RX5) (T := TX5) (N := 9) hx hb hts in_X5 hown hG.1 hP 50 g_Sp_50 rfl 0 (by decide) (va_Nw.use rfl (nw_X8_109 hG.2)) (fun _ h9 => h9) rfl dX8_holder_86 ?_
      refine lv_iload_n hx hb dX8_holder_89 rfl (lv_at hl 1 rfl) ?_
      refine roVN (wc := (wUn cy (na 1) (na 2) (na 3) (na 4) (na 5) (na 6) (sU (pN z)))) (As := [.int x1]) (rest := []) (c_X7_placedAt l D cy (na 1) (na 2) (na 3) (na 4) (na 5) (na 6) (sU (pN z)) x1 hN.1) hCF gX8_holder_X7_placedAt_n187 (nw_X8_187 hG.2) k_1 k_4 k_5 rfl hd_X7_placedAt ⟨rfl, rfl, Nat.le_of_ble_eq_true rfl, Nat.le_of_ble_eq_true rfl⟩ hG (hP.sub (ws' := (wUn cy (na 1) (na 2) (na 3) (na 4) (na 5) (na 6) (sU (pN z)))) [51, 52, 53, 54, 55, 56] u_Sp_Un51) (ci := 5) rfl rfl g_Un_0 rfl hl.1 rfl (Nat.le_of_ble_eq_true rfl) dX8_holder_90 ⟨Nat.le_of_ble_eq_true rfl, Nat.le_of_ble_eq_true rfl⟩ ?_
      exact ex_iret hx hb hr hlocks hP hS (Nat.le_of_ble_eq_true rfl) (Nat.le_of_ble_eq_true rfl) dX8_holder_93 (by rw [m_X8_holder, if_neg c_1, if_neg c_2, if_neg c_3, if_pos c_4]) (by rw [m_X8_holder, if_neg c_1, if_neg c_2, if_neg c_3, if_pos c_4]) (by rw [m_X8_holder, if_neg c_1, if_neg c_2, if_neg c_3, if_pos c_4])
    by_cases c_5 : x2 = (3 : Int32)
    · refine lv_tableIn (tgt := 94) hx hb dX8_holder_16 (by rw [c_5]; decide) (by rw [c_5]; decide) (by rw [c_5]; rfl) (by decide) ?_
      refine lv_aload_n hx hb dX8_holder_94 rfl (lv_at hl 0 rfl) ?_
      refine va_get (D := D) (ci := 6) (v := .ref (na 0)) (C := RX8) (T := TX8) (N := 6) hx hb hts in_X8 hown hG.1 hP 0 g_Sp_0 rfl 1 (by decide) k_0 (fun _ h9 => h9) rfl dX8_holder_95 ?_
      refine va_getN (D := D) (ci := 3) (v := .ref (na 1)) (C := RX5) (T := TX5) (N := 9) hx hb hts in_X5 hown hG.1 hP 50 g_Sp_50 rfl 0 (by decide) (va_Nw.use rfl (nw_X8_109 hG.2)) (fun _ h9 => h9) rfl dX8_holder_98 ?_
      refine lv_iload_n hx hb dX8_holder_101 rfl (lv_at hl 1 rfl) ?_
      refine roVN (wc := (wUn cy (na 1) (na 2) (na 3) (na 4) (na 5) (na 6) (sU (pN z)))) (As := [.int x1]) (rest := []) (c_X7_borrowedBy l D cy (na 1) (na 2) (na 3) (na 4) (na 5) (na 6) (sU (pN z)) x1 hN.1) hCF gX8_holder_X7_borrowedBy_n190 (nw_X8_190 hG.2) k_1 k_6 k_7 rfl hd_X7_borrowedBy ⟨rfl, rfl, Nat.le_of_ble_eq_true rfl, Nat.le_of_ble_eq_true rfl⟩ hG (hP.sub (ws' := (wUn cy (na 1) (na 2) (na 3) (na 4) (na 5) (na 6) (sU (pN z)))) [51, 52, 53, 54, 55, 56] u_Sp_Un51) (ci := 5) rfl rfl g_Un_0 rfl hl.1 rfl (Nat.le_of_ble_eq_true rfl) dX8_holder_102 ⟨Nat.le_of_ble_eq_true rfl, Nat.le_of_ble_eq_true rfl⟩ ?_
      exact ex_iret hx hb hr hlocks hP hS (Nat.le_of_ble_eq_true rfl) (Nat.le_of_ble_eq_true rfl) dX8_holder_105 (by rw [m_X8_holder, if_neg c_1, if_neg c_2, if_neg c_3, if_neg c_4, if_pos c_5]) (by rw [m_X8_holder, if_neg c_1, if_neg c_2, if_neg c_3, if_neg c_4, if_pos c_5]) (by rw [m_X8_holder, if_neg c_1, if_neg c_2, if_neg c_3, if_neg c_4, if_pos c_5])
    by_cases c_6 : x2 = (4 : Int32)
    · refine lv_tableIn (tgt := 106) hx hb dX8_holder_16 (by rw [c_6]; decide) (by rw [c_6]; decide) (by rw [c_6]; rfl) (by decide) ?_
      refine lv_aload_n hx hb dX8_holder_106 rfl (lv_at hl 0 rfl) ?_
      refine va_get (D := D) (ci := 6) (v := .ref (na 0)) (C := RX8) (T := TX8) (N := 6) hx hb hts in_X8 hown hG.1 hP 0 g_Sp_0 rfl 1 (by decide) k_0 (fun _ h9 => h9) rfl dX8_holder_107 ?_
      refine va_getN (D := D) (ci := 3) (v := .ref (na 7)) (C := RX5) (T := TX5) (N := 9) hx hb hts in_X5 hown hG.1 hP 50 g_Sp_50 rfl 1 (by decide) (va_Nw.use rfl (nw_X8_127 hG.2)) (fun _ h9 => h9) rfl dX8_holder_110 ?_
      refine va_getN (D := D) (ci := 0) (v := .ref (na 10)) (C := RX0) (T := TX0) (N := 3) hx hb hts in_X0 hown hG.1 hP 57 g_Sp_57 rfl 2 (by decide) (va_Nw.use rfl (nw_X8_193 hG.2)) (fun _ h9 => h9) rfl dX8_holder_113 ?_
      refine lv_iload_n hx hb dX8_holder_116 rfl (lv_at hl 1 rfl) ?_
      refine va_iald hx hb hG.1 hP 60 0 (n := 5) (f := (cC (sC (pN z)))) g_Sp_60 rfl (bd_isHolder c_1) dX8_holder_117 ?_
      exact ex_iret hx hb hr hlocks hP hS (Nat.le_of_ble_eq_true rfl) (Nat.le_of_ble_eq_true rfl) dX8_holder_118 (by rw [m_X8_holder, if_neg c_1, if_neg c_2, if_neg c_3, if_neg c_4, if_neg c_5, if_pos c_6]) (by rw [m_X8_holder, if_neg c_1, if_neg c_2, if_neg c_3, if_neg c_4, if_neg c_5, if_pos c_6]) (by rw [m_X8_holder, if_neg c_1, if_neg c_2, if_neg c_3, if_neg c_4, if_neg c_5, if_pos c_6])
    by_cases c_7 : x2 = (5 : Int32)
    · refine lv_tableIn (tgt := 119) hx hb dX8_holder_16 (by rw [c_7]; decide) (by rw [c_7]; decide) (by rw [c_7]; rfl) (by decide) ?_
      refine lv_aload_n hx hb dX8_holder_119 rfl (lv_at hl 0 rfl) ?_
      refine va_get (D := D) (ci := 6) (v := .ref (na 0)) (C := RX8) (T := TX8) (N := 6) hx hb hts in_X8 hown hG.1 hP 0 g_Sp_0 rfl 1 (by decide) k_0 (fun _ h9 => h9) rfl dX8_holder_120 ?_
      refine va_getN (D := D) (ci := 3) (v := .ref (na 11)) (C := RX5) (T := TX5) (N := 9) hx hb hts in_X5 hown hG.1 hP 50 g_Sp_50 rfl 2 (by decide) (va_Nw.use rfl (nw_X8_136 hG.2)) (fun _ h9 => h9) rfl dX8_holder_123 ?_
      refine lv_iload_n hx hb dX8_holder_126 rfl (lv_at hl 1 rfl) ?_
      refine roVN (wc := (wDe cy (na 11) (na 12) (sD (pN z)))) (As := [.int x1]) (rest := []) (c_X1_owedBy l D cy (na 11) (na 12) (sD (pN z)) x1) hCF gX8_holder_X1_owedBy_n195 (nw_X8_195 hG.2) k_8 k_9 k_10 rfl hd_X1_owedBy ⟨rfl, rfl, Nat.le_of_ble_eq_true rfl, Nat.le_of_ble_eq_true rfl⟩ hG (hP.sub (ws' := (wDe cy (na 11) (na 12) (sD (pN z)))) [61, 62] u_Sp_De61) (ci := 1) rfl rfl g_De_0 rfl hl.1 rfl (Nat.le_of_ble_eq_true rfl) dX8_holder_127 ⟨Nat.le_of_ble_eq_true rfl, Nat.le_of_ble_eq_true rfl⟩ ?_
      exact ex_iret hx hb hr hlocks hP hS (Nat.le_of_ble_eq_true rfl) (Nat.le_of_ble_eq_true rfl) dX8_holder_130 (by rw [m_X8_holder, if_neg c_1, if_neg c_2, if_neg c_3, if_neg c_4, if_neg c_5, if_neg c_6, if_pos c_7]) (by rw [m_X8_holder, if_neg c_1, if_neg c_2, if_neg c_3, if_neg c_4, if_neg c_5, if_neg c_6, if_pos c_7]) (by rw [m_X8_holder, if_neg c_1, if_neg c_2, if_neg c_3, if_neg c_4, if_neg c_5, if_neg c_6, if_pos c_7])
    by_cases c_8 : x2 = (6 : Int32)
    · refine lv_tableIn (tgt := 131) hx hb dX8_holder_16 (by rw [c_8]; decide) (by rw [c_8]; decide) (by rw [c_8]; rfl) (by decide) ?_
      refine lv_aload_n hx hb dX8_holder_131 rfl (lv_at hl 0 rfl) ?_
      refine va_get (D := D) (ci := 6) (v := .ref (na 0)) (C := RX8) (T := TX8) (N := 6) hx hb hts in_X8 hown hG.1 hP 0 g_Sp_0 rfl 1 (by decide) k_0 (fun _ h9 => h9) rfl dX8_holder_132 ?_
      refine va_getN (D := D) (ci := 3) (v := .ref (na 11)) (C := RX5) (T := TX5) (N := 9) hx hb hts in_X5 hown hG.1 hP 50 g_Sp_50 rfl 2 (by decide) (va_Nw.use rfl (nw_X8_136 hG.2)) (fun _ h9 => h9) rfl dX8_holder_135 ?_
      refine lv_iload_n hx hb dX8_holder_138 rfl (lv_at hl 1 rfl) ?_
      refine roVN (wc := (wDe cy (na 11) (na 12) (sD (pN z)))) (As := [.int x1]) (rest := []) (c_X1_owedTo l D cy (na 11) (na 12) (sD (pN z)) x1) hCF gX8_holder_X1_owedTo_n198 (nw_X8_198 hG.2) k_8 k_11 k_12 rfl hd_X1_owedTo ⟨rfl, rfl, Nat.le_of_ble_eq_true rfl, Nat.le_of_ble_eq_true rfl⟩ hG (hP.sub (ws' := (wDe cy (na 11) (na 12) (sD (pN z)))) [61, 62] u_Sp_De61) (ci := 1) rfl rfl g_De_0 rfl hl.1 rfl (Nat.le_of_ble_eq_true rfl) dX8_holder_139 ⟨Nat.le_of_ble_eq_true rfl, Nat.le_of_ble_eq_true rfl⟩ ?_
      exact ex_iret hx hb hr hlocks hP hS (Nat.le_of_ble_eq_true rfl) (Nat.le_of_ble_eq_true rfl) dX8_holder_142 (by rw [m_X8_holder, if_neg c_1, if_neg c_2, if_neg c_3, if_neg c_4, if_neg c_5, if_neg c_6, if_neg c_7, if_pos c_8]) (by rw [m_X8_holder, if_neg c_1, if_neg c_2, if_neg c_3, if_neg c_4, if_neg c_5, if_neg c_6, if_neg c_7, if_pos c_8]) (by rw [m_X8_holder, if_neg c_1, if_neg c_2, if_neg c_3, if_neg c_4, if_neg c_5, if_neg c_6, if_neg c_7, if_pos c_8])
    · refine lv_tableOut (tgt := 143) hx hb dX8_holder_16 (by have q_2 := lv_neT (a := 0) c_2 rfl; have q_3 := lv_neT (a := 1) c_3 rfl; have q_4 := lv_neT (a := 2) c_4 rfl; have q_5 := lv_neT (a := 3) c_5 rfl; have q_6 := lv_neT (a := 4) c_6 rfl; have q_7 := lv_neT (a := 5) c_7 rfl; have q_8 := lv_neT (a := 6) c_8 rfl; omega) (by decide) ?_
      exact ex_thr (i := 2) (ik := 41) (ic := 43) hx hb hl0 hown (hts (Cond.classLink RX8 41 "java/lang/IllegalArgumentException") (List.mem_of_getElem? (i := 3) rfl)) (hts (Cond.initialized "java/lang/IllegalArgumentException") (List.mem_of_getElem? (i := 4) rfl)) (by decide) (fun w h => hts w (List.mem_cons_of_mem _ (List.mem_append_right _ h))) (by decide +kernel) (by decide +kernel) hF hS hP (hl.1.trans hml.symm) dX8_holder_143 dX8_holder_146 dX8_holder_147 dX8_holder_150 hnx (Nat.le_of_ble_eq_true rfl) (Nat.le_of_ble_eq_true rfl) (Nat.le_of_ble_eq_true rfl) (Nat.le_of_ble_eq_true rfl) hlocks (Nat.le_of_ble_eq_true rfl) (Nat.le_of_ble_eq_true rfl) (by rw [m_X8_holder, if_neg c_1, if_neg c_2, if_neg c_3, if_neg c_4, if_neg c_5, if_neg c_6, if_neg c_7, if_neg c_8]) (by decide) (by rw [m_X8_holder, if_neg c_1, if_neg c_2, if_neg c_3, if_neg c_4, if_neg c_5, if_neg c_6, if_neg c_7, if_neg c_8])
  · skip
    exact ex_thr (i := 1) (ik := 156) (ic := 158) hx hb hl0 hown (hts (Cond.classLink RX8 156 "java/lang/IndexOutOfBoundsException") (List.mem_of_getElem? (i := 1) rfl)) (hts (Cond.initialized "java/lang/IndexOutOfBoundsException") (List.mem_of_getElem? (i := 2) rfl)) (by decide) (fun w h => hts w (List.mem_cons_of_mem _ (List.mem_append_left _ (List.mem_append_right _ h)))) (by decide +kernel) (by decide +kernel) hF hS hP (hl.1.trans hml.symm) dX8_holder_7 dX8_holder_10 dX8_holder_11 dX8_holder_14 hnx (Nat.le_of_ble_eq_true rfl) (Nat.le_of_ble_eq_true rfl) (Nat.le_of_ble_eq_true rfl) (Nat.le_of_ble_eq_true rfl) hlocks (Nat.le_of_ble_eq_true rfl) (Nat.le_of_ble_eq_true rfl) (by rw [m_X8_holder, if_pos c_1]) (by decide) (by rw [m_X8_holder, if_pos c_1])
def m_X8_core (z : SpT) (x1 : Int32) (x2 : Int32) (x3 : Int32) : Nat × Int32 × SpT := if (m_X8_isHolder x1) = (0 : Int32) then (1, (0 : Int32), z) else if x2 < (0 : Int32) then (2, (0 : Int32), z) else if x3 < (0 : Int32) then (2, (0 : Int32), z) else if x3 ≤ (1 : Int32) then if x3 = (0 : Int32) then (0, m_X0_kindOf (sC (pN z)) x1 x2, z) else (0, m_X0_dueOf (sC (pN z)) x1 x2, z) else (2, (0 : Int32), z)
theorem hd_X8_core : yX8_core.cls = RX8 ∧ yX8_core.cls ≠ "java/lang/invoke/MethodHandle" ∧ yX8_core.cls ≠ "java/lang/invoke/VarHandle" ∧ (parseMethodDescriptor yX8_core.desc).map (fun d => d.parameters.length) = some 3 := by decide +kernel
set_option maxHeartbeats 8000000 in
set_option maxRecDepth 20000 in
theorem c_X8_core (l : Launch) (hl0 : l.stackTraces = false) (D : va_G) (cy : Nat → ClassId) (t : FxA) (xa sa sb tr na : Nat → Nat) (ka : Nat → Nat → Nat) (z : SpT) (x1 : Int32) (x2 : Int32) (x3 : Int32) (hN : stOK (pN z)) : EX l D cy t yX8_core wsX8_core ({ frames := 6, cells := 1, slots := 6, locals := 81 } : Room) (wSp cy xa sa sb tr na ka z) (wSp cy xa sa sb tr na ka (m_X8_core z x1 x2 x3).2.2) [.ref (xa 0), .int x1, .int x2, .int x3] 1 6 (m_X8_core z x1 x2 x3).1 (m_X8_core z x1 x2 x3).2.1 := by
  refine EX.body (by decide) rfl (Nat.le_of_ble_eq_true rfl) ?_
  intro p e s m below meth c hx hb hml hnx hr hts hown hlocks hP hG ls hl A hD hA hS hF
  have hl : lv_has ls 4 [(0, .ref (xa 0)), (1, .int x1), (2, .int x2), (3, .int x3)] := hl
  have hCF : CallFix p m c cX8_core 4 s ([.ref (xa 0), .int x1, .int x2, .int x3] : List Value).toArray wsX8_core RX8 := ⟨hx, hb, hml, hown, hts⟩
  have in_X5 : ∀ w ∈ u_ws RX5 TX5 9, w ∈ wsX8_core := fun _ h => List.mem_cons_of_mem _ (List.mem_append_left _ (List.mem_append_left _ (List.mem_append_left _ (List.mem_append_right _ h))))
  have in_X8 : ∀ w ∈ u_ws RX8 TX8 6, w ∈ wsX8_core := fun _ h => List.mem_cons_of_mem _ (List.mem_append_left _ (List.mem_append_left _ (List.mem_append_left _ (List.mem_append_left _ (List.mem_append_right _ h)))))
  have k_0 := hts (Cond.fieldLink RX8 19 "SparePool" "now" "LSparePool$State;") (List.mem_of_getElem? (i := 5) rfl)
  have k_1 := hts (Cond.initialized RX0) (List.mem_of_getElem? (i := 11) rfl)
  have k_2 := hts (Cond.instanceMethod yX0_dueOf) (List.mem_of_getElem? (i := 20) rfl)
  have k_3 := hts (Cond.selects RX0 yX0_dueOf yX0_dueOf) (List.mem_of_getElem? (i := 21) rfl)
  have k_4 := hts (Cond.instanceMethod yX0_kindOf) (List.mem_of_getElem? (i := 10) rfl)
  have k_5 := hts (Cond.selects RX0 yX0_kindOf yX0_kindOf) (List.mem_of_getElem? (i := 12) rfl)
  have hP : va_P D vwCl (wSp cy xa sa sb tr na ka z) s.heap := hP
  refine lv_iload_n hx hb dX8_core_0 rfl (lv_at hl 1 rfl) ?_
  refine roS (wc := ([] : va_W)) (As := [.int x1]) (rest := []) (c_X8_isHolder l D cy x1) hCF gX8_core_X8_isHolder rfl hd_X8_isHolder ⟨rfl, rfl, Nat.le_of_ble_eq_true rfl, Nat.le_of_ble_eq_true rfl⟩ hG va_P_nil rfl hl.1 rfl (Nat.le_of_ble_eq_true rfl) dX8_core_1 ⟨Nat.le_of_ble_eq_true rfl, Nat.le_of_ble_eq_true rfl⟩ ?_
  refine lv_if_ne (tgt := 15) hx hb dX8_core_4 (by decide) (fun c_1 => ?_) (fun c_1 => ?_)
  · skip
    refine lv_iload_n hx hb dX8_core_15 rfl (lv_at hl 2 rfl) ?_
    refine lv_if_lt (tgt := 28) hx hb dX8_core_16 (by decide) (fun c_2 => ?_) (fun c_2 => ?_)
    · skip
      exact ex_thr (i := 2) (ik := 41) (ic := 43) hx hb hl0 hown (hts (Cond.classLink RX8 41 "java/lang/IllegalArgumentException") (List.mem_of_getElem? (i := 3) rfl)) (hts (Cond.initialized "java/lang/IllegalArgumentException") (List.mem_of_getElem? (i := 4) rfl)) (by decide) (fun w h => hts w (List.mem_cons_of_mem _ (List.mem_append_right _ h))) (by decide +kernel) (by decide +kernel) hF hS hP (hl.1.trans hml.symm) dX8_core_28 dX8_core_31 dX8_core_32 dX8_core_35 hnx (Nat.le_of_ble_eq_true rfl) (Nat.le_of_ble_eq_true rfl) (Nat.le_of_ble_eq_true rfl) (Nat.le_of_ble_eq_true rfl) hlocks (Nat.le_of_ble_eq_true rfl) (Nat.le_of_ble_eq_true rfl) (by rw [m_X8_core, if_neg c_1, if_pos c_2]) (by decide) (by rw [m_X8_core, if_neg c_1, if_pos c_2])
    · skip
      refine lv_iload_n hx hb dX8_core_19 rfl (lv_at hl 3 rfl) ?_
      refine lv_if_lt (tgt := 28) hx hb dX8_core_20 (by decide) (fun c_3 => ?_) (fun c_3 => ?_)
      · skip
        exact ex_thr (i := 2) (ik := 41) (ic := 43) hx hb hl0 hown (hts (Cond.classLink RX8 41 "java/lang/IllegalArgumentException") (List.mem_of_getElem? (i := 3) rfl)) (hts (Cond.initialized "java/lang/IllegalArgumentException") (List.mem_of_getElem? (i := 4) rfl)) (by decide) (fun w h => hts w (List.mem_cons_of_mem _ (List.mem_append_right _ h))) (by decide +kernel) (by decide +kernel) hF hS hP (hl.1.trans hml.symm) dX8_core_28 dX8_core_31 dX8_core_32 dX8_core_35 hnx (Nat.le_of_ble_eq_true rfl) (Nat.le_of_ble_eq_true rfl) (Nat.le_of_ble_eq_true rfl) (Nat.le_of_ble_eq_true rfl) hlocks (Nat.le_of_ble_eq_true rfl) (Nat.le_of_ble_eq_true rfl) (by rw [m_X8_core, if_neg c_1, if_neg c_2, if_pos c_3]) (by decide) (by rw [m_X8_core, if_neg c_1, if_neg c_2, if_pos c_3])
      · skip
        refine lv_iload_n hx hb dX8_core_23 rfl (lv_at hl 3 rfl) ?_
        refine lv_iconst (v := (1 : Int32)) hx hb dX8_core_24 (by decide) ?_
        refine lv_icmp_le (tgt := 36) hx hb dX8_core_25 (by decide) (fun c_4 => ?_) (fun c_4 => ?_)
        · skip
          refine lv_iload_n hx hb dX8_core_36 rfl (lv_at hl 3 rfl) ?_
          refine lv_if_ne (tgt := 55) hx hb dX8_core_37 (by decide) (fun c_5 => ?_) (fun c_5 => ?_)
          · skip
            refine lv_aload_n hx hb dX8_core_55 rfl (lv_at hl 0 rfl) ?_
            refine va_get (D := D) (ci := 6) (v := .ref (na 0)) (C := RX8) (T := TX8) (N := 6) hx hb hts in_X8 hown hG.1 hP 0 g_Sp_0 rfl 1 (by decide) k_0 (fun _ h9 => h9) rfl dX8_core_56 ?_
            refine va_getN (D := D) (ci := 3) (v := .ref (na 7)) (C := RX5) (T := TX5) (N := 9) hx hb hts in_X5 hown hG.1 hP 50 g_Sp_50 rfl 1 (by decide) (va_Nw.use rfl (nw_X8_127 hG.2)) (fun _ h9 => h9) rfl dX8_core_59 ?_
            refine lv_iload_n hx hb dX8_core_62 rfl (lv_at hl 1 rfl) ?_
            refine lv_iload_n hx hb dX8_core_63 rfl (lv_at hl 2 rfl) ?_
            refine roVN (wc := (wCo cy (na 7) (na 8) (na 9) (na 10) (sC (pN z)))) (As := [.int x1, .int x2]) (rest := []) (c_X0_dueOf l D cy (na 7) (na 8) (na 9) (na 10) (sC (pN z)) x1 x2 hN.2) hCF gX8_core_X0_dueOf_n214 (nw_X8_214 hG.2) k_1 k_2 k_3 rfl hd_X0_dueOf ⟨rfl, rfl, Nat.le_of_ble_eq_true rfl, Nat.le_of_ble_eq_true rfl⟩ hG (hP.sub (ws' := (wCo cy (na 7) (na 8) (na 9) (na 10) (sC (pN z)))) [57, 58, 59, 60] u_Sp_Co57) (ci := 0) rfl rfl g_Co_0 rfl hl.1 rfl (Nat.le_of_ble_eq_true rfl) dX8_core_64 ⟨Nat.le_of_ble_eq_true rfl, Nat.le_of_ble_eq_true rfl⟩ ?_
            exact ex_iret hx hb hr hlocks hP hS (Nat.le_of_ble_eq_true rfl) (Nat.le_of_ble_eq_true rfl) dX8_core_67 (by rw [m_X8_core, if_neg c_1, if_neg c_2, if_neg c_3, if_pos c_4, if_neg c_5]) (by rw [m_X8_core, if_neg c_1, if_neg c_2, if_neg c_3, if_pos c_4, if_neg c_5]) (by rw [m_X8_core, if_neg c_1, if_neg c_2, if_neg c_3, if_pos c_4, if_neg c_5])
          · skip
            refine lv_aload_n hx hb dX8_core_40 rfl (lv_at hl 0 rfl) ?_
            refine va_get (D := D) (ci := 6) (v := .ref (na 0)) (C := RX8) (T := TX8) (N := 6) hx hb hts in_X8 hown hG.1 hP 0 g_Sp_0 rfl 1 (by decide) k_0 (fun _ h9 => h9) rfl dX8_core_41 ?_
            refine va_getN (D := D) (ci := 3) (v := .ref (na 7)) (C := RX5) (T := TX5) (N := 9) hx hb hts in_X5 hown hG.1 hP 50 g_Sp_50 rfl 1 (by decide) (va_Nw.use rfl (nw_X8_127 hG.2)) (fun _ h9 => h9) rfl dX8_core_44 ?_
            refine lv_iload_n hx hb dX8_core_47 rfl (lv_at hl 1 rfl) ?_
            refine lv_iload_n hx hb dX8_core_48 rfl (lv_at hl 2 rfl) ?_
            refine roVN (wc := (wCo cy (na 7) (na 8) (na 9) (na 10) (sC (pN z)))) (As := [.int x1, .int x2]) (rest := []) (c_X0_kindOf l D cy (na 7) (na 8) (na 9) (na 10) (sC (pN z)) x1 x2 hN.2) hCF gX8_core_X0_kindOf_n211 (nw_X8_211 hG.2) k_1 k_4 k_5 rfl hd_X0_kindOf ⟨rfl, rfl, Nat.le_of_ble_eq_true rfl, Nat.le_of_ble_eq_true rfl⟩ hG (hP.sub (ws' := (wCo cy (na 7) (na 8) (na 9) (na 10) (sC (pN z)))) [57, 58, 59, 60] u_Sp_Co57) (ci := 0) rfl rfl g_Co_0 rfl hl.1 rfl (Nat.le_of_ble_eq_true rfl) dX8_core_49 ⟨Nat.le_of_ble_eq_true rfl, Nat.le_of_ble_eq_true rfl⟩ ?_
            refine lv_goto (tgt := 67) hx hb dX8_core_52 (by decide) ?_
            exact ex_iret hx hb hr hlocks hP hS (Nat.le_of_ble_eq_true rfl) (Nat.le_of_ble_eq_true rfl) dX8_core_67 (by rw [m_X8_core, if_neg c_1, if_neg c_2, if_neg c_3, if_pos c_4, if_pos c_5]) (by rw [m_X8_core, if_neg c_1, if_neg c_2, if_neg c_3, if_pos c_4, if_pos c_5]) (by rw [m_X8_core, if_neg c_1, if_neg c_2, if_neg c_3, if_pos c_4, if_pos c_5])
        · skip
          exact ex_thr (i := 2) (ik := 41) (ic := 43) hx hb hl0 hown (hts (Cond.classLink RX8 41 "java/lang/IllegalArgumentException") (List.mem_of_getElem? (i := 3) rfl)) (hts (Cond.initialized "java/lang/IllegalArgumentException") (List.mem_of_getElem? (i := 4) rfl)) (by decide) (fun w h => hts w (List.mem_cons_of_mem _ (List.mem_append_right _ h))) (by decide +kernel) (by decide +kernel) hF hS hP (hl.1.trans hml.symm) dX8_core_28 dX8_core_31 dX8_core_32 dX8_core_35 hnx (Nat.le_of_ble_eq_true rfl) (Nat.le_of_ble_eq_true rfl) (Nat.le_of_ble_eq_true rfl) (Nat.le_of_ble_eq_true rfl) hlocks (Nat.le_of_ble_eq_true rfl) (Nat.le_of_ble_eq_true rfl) (by rw [m_X8_core, if_neg c_1, if_neg c_2, if_neg c_3, if_neg c_4]) (by decide) (by rw [m_X8_core, if_neg c_1, if_neg c_2, if_neg c_3, if_neg c_4])
  · skip
    exact ex_thr (i := 1) (ik := 156) (ic := 158) hx hb hl0 hown (hts (Cond.classLink RX8 156 "java/lang/IndexOutOfBoundsException") (List.mem_of_getElem? (i := 1) rfl)) (hts (Cond.initialized "java/lang/IndexOutOfBoundsException") (List.mem_of_getElem? (i := 2) rfl)) (by decide) (fun w h => hts w (List.mem_cons_of_mem _ (List.mem_append_left _ (List.mem_append_right _ h)))) (by decide +kernel) (by decide +kernel) hF hS hP (hl.1.trans hml.symm) dX8_core_7 dX8_core_10 dX8_core_11 dX8_core_14 hnx (Nat.le_of_ble_eq_true rfl) (Nat.le_of_ble_eq_true rfl) (Nat.le_of_ble_eq_true rfl) (Nat.le_of_ble_eq_true rfl) hlocks (Nat.le_of_ble_eq_true rfl) (Nat.le_of_ble_eq_true rfl) (by rw [m_X8_core, if_pos c_1]) (by decide) (by rw [m_X8_core, if_pos c_1])
def m_X8_complete (z : SpT) (x1 : Int32) (x2 : Int32) : Nat × Int32 × SpT := if (m_X8_isHolder x1) = (0 : Int32) then (1, (0 : Int32), z) else if (m_X8_isKind x2) = (0 : Int32) then (1, (0 : Int32), z) else (0, m_X7_mostCompleted (sU (pN z)) x1 x2, z)
theorem hd_X8_complete : yX8_complete.cls = RX8 ∧ yX8_complete.cls ≠ "java/lang/invoke/MethodHandle" ∧ yX8_complete.cls ≠ "java/lang/invoke/VarHandle" ∧ (parseMethodDescriptor yX8_complete.desc).map (fun d => d.parameters.length) = some 2 := by decide +kernel
set_option maxHeartbeats 8000000 in
set_option maxRecDepth 20000 in
theorem c_X8_complete (l : Launch) (hl0 : l.stackTraces = false) (D : va_G) (cy : Nat → ClassId) (t : FxA) (xa sa sb tr na : Nat → Nat) (ka : Nat → Nat → Nat) (z : SpT) (x1 : Int32) (x2 : Int32) (hN : stOK (pN z)) : EX l D cy t yX8_complete wsX8_complete ({ frames := 6, cells := 1, slots := 6, locals := 81 } : Room) (wSp cy xa sa sb tr na ka z) (wSp cy xa sa sb tr na ka (m_X8_complete z x1 x2).2.2) [.ref (xa 0), .int x1, .int x2] 1 6 (m_X8_complete z x1 x2).1 (m_X8_complete z x1 x2).2.1 := by
  refine EX.body (by decide) rfl (Nat.le_of_ble_eq_true rfl) ?_
  intro p e s m below meth c hx hb hml hnx hr hts hown hlocks hP hG ls hl A hD hA hS hF
  have hl : lv_has ls 3 [(0, .ref (xa 0)), (1, .int x1), (2, .int x2)] := hl
  have hCF : CallFix p m c cX8_complete 3 s ([.ref (xa 0), .int x1, .int x2] : List Value).toArray wsX8_complete RX8 := ⟨hx, hb, hml, hown, hts⟩
  have in_X5 : ∀ w ∈ u_ws RX5 TX5 9, w ∈ wsX8_complete := fun _ h => List.mem_cons_of_mem _ (List.mem_append_left _ (List.mem_append_left _ (List.mem_append_right _ h)))
  have in_X8 : ∀ w ∈ u_ws RX8 TX8 6, w ∈ wsX8_complete := fun _ h => List.mem_cons_of_mem _ (List.mem_append_left _ (List.mem_append_left _ (List.mem_append_left _ (List.mem_append_right _ h))))
  have k_0 := hts (Cond.fieldLink RX8 19 "SparePool" "now" "LSparePool$State;") (List.mem_of_getElem? (i := 3) rfl)
  have k_1 := hts (Cond.initialized RX7) (List.mem_of_getElem? (i := 12) rfl)
  have k_2 := hts (Cond.instanceMethod yX7_mostCompleted) (List.mem_of_getElem? (i := 11) rfl)
  have k_3 := hts (Cond.selects RX7 yX7_mostCompleted yX7_mostCompleted) (List.mem_of_getElem? (i := 13) rfl)
  have hP : va_P D vwCl (wSp cy xa sa sb tr na ka z) s.heap := hP
  refine lv_iload_n hx hb dX8_complete_0 rfl (lv_at hl 1 rfl) ?_
  refine roS (wc := ([] : va_W)) (As := [.int x1]) (rest := []) (c_X8_isHolder l D cy x1) hCF gX8_complete_X8_isHolder rfl hd_X8_isHolder ⟨rfl, rfl, Nat.le_of_ble_eq_true rfl, Nat.le_of_ble_eq_true rfl⟩ hG va_P_nil rfl hl.1 rfl (Nat.le_of_ble_eq_true rfl) dX8_complete_1 ⟨Nat.le_of_ble_eq_true rfl, Nat.le_of_ble_eq_true rfl⟩ ?_
  refine lv_if_eq (tgt := 14) hx hb dX8_complete_4 (by decide) (fun c_1 => ?_) (fun c_1 => ?_)
  · skip
    exact ex_thr (i := 1) (ik := 156) (ic := 158) hx hb hl0 hown (hts (Cond.classLink RX8 156 "java/lang/IndexOutOfBoundsException") (List.mem_of_getElem? (i := 1) rfl)) (hts (Cond.initialized "java/lang/IndexOutOfBoundsException") (List.mem_of_getElem? (i := 2) rfl)) (by decide) (fun w h => hts w (List.mem_cons_of_mem _ (List.mem_append_right _ h))) (by decide +kernel) (by decide +kernel) hF hS hP (hl.1.trans hml.symm) dX8_complete_14 dX8_complete_17 dX8_complete_18 dX8_complete_21 hnx (Nat.le_of_ble_eq_true rfl) (Nat.le_of_ble_eq_true rfl) (Nat.le_of_ble_eq_true rfl) (Nat.le_of_ble_eq_true rfl) hlocks (Nat.le_of_ble_eq_true rfl) (Nat.le_of_ble_eq_true rfl) (by rw [m_X8_complete, if_pos c_1]) (by decide) (by rw [m_X8_complete, if_pos c_1])
  · skip
    refine lv_iload_n hx hb dX8_complete_7 rfl (lv_at hl 2 rfl) ?_
    refine roS (wc := ([] : va_W)) (As := [.int x2]) (rest := []) (c_X8_isKind l D cy x2) hCF gX8_complete_X8_isKind rfl hd_X8_isKind ⟨rfl, rfl, Nat.le_of_ble_eq_true rfl, Nat.le_of_ble_eq_true rfl⟩ hG va_P_nil rfl hl.1 rfl (Nat.le_of_ble_eq_true rfl) dX8_complete_8 ⟨Nat.le_of_ble_eq_true rfl, Nat.le_of_ble_eq_true rfl⟩ ?_
    refine lv_if_ne (tgt := 22) hx hb dX8_complete_11 (by decide) (fun c_2 => ?_) (fun c_2 => ?_)
    · skip
      refine lv_aload_n hx hb dX8_complete_22 rfl (lv_at hl 0 rfl) ?_
      refine va_get (D := D) (ci := 6) (v := .ref (na 0)) (C := RX8) (T := TX8) (N := 6) hx hb hts in_X8 hown hG.1 hP 0 g_Sp_0 rfl 1 (by decide) k_0 (fun _ h9 => h9) rfl dX8_complete_23 ?_
      refine va_getN (D := D) (ci := 3) (v := .ref (na 1)) (C := RX5) (T := TX5) (N := 9) hx hb hts in_X5 hown hG.1 hP 50 g_Sp_50 rfl 0 (by decide) (va_Nw.use rfl (nw_X8_109 hG.2)) (fun _ h9 => h9) rfl dX8_complete_26 ?_
      refine lv_iload_n hx hb dX8_complete_29 rfl (lv_at hl 1 rfl) ?_
      refine lv_iload_n hx hb dX8_complete_30 rfl (lv_at hl 2 rfl) ?_
      refine roVN (wc := (wUn cy (na 1) (na 2) (na 3) (na 4) (na 5) (na 6) (sU (pN z)))) (As := [.int x1, .int x2]) (rest := []) (c_X7_mostCompleted l D cy (na 1) (na 2) (na 3) (na 4) (na 5) (na 6) (sU (pN z)) x1 x2 hN.1) hCF gX8_complete_X7_mostCompleted_n252 (nw_X8_252 hG.2) k_1 k_2 k_3 rfl hd_X7_mostCompleted ⟨rfl, rfl, Nat.le_of_ble_eq_true rfl, Nat.le_of_ble_eq_true rfl⟩ hG (hP.sub (ws' := (wUn cy (na 1) (na 2) (na 3) (na 4) (na 5) (na 6) (sU (pN z)))) [51, 52, 53, 54, 55, 56] u_Sp_Un51) (ci := 5) rfl rfl g_Un_0 rfl hl.1 rfl (Nat.le_of_ble_eq_true rfl) dX8_complete_31 ⟨Nat.le_of_ble_eq_true rfl, Nat.le_of_ble_eq_true rfl⟩ ?_
      exact ex_iret hx hb hr hlocks hP hS (Nat.le_of_ble_eq_true rfl) (Nat.le_of_ble_eq_true rfl) dX8_complete_34 (by rw [m_X8_complete, if_neg c_1, if_neg c_2]) (by rw [m_X8_complete, if_neg c_1, if_neg c_2]) (by rw [m_X8_complete, if_neg c_1, if_neg c_2])
    · skip
      exact ex_thr (i := 1) (ik := 156) (ic := 158) hx hb hl0 hown (hts (Cond.classLink RX8 156 "java/lang/IndexOutOfBoundsException") (List.mem_of_getElem? (i := 1) rfl)) (hts (Cond.initialized "java/lang/IndexOutOfBoundsException") (List.mem_of_getElem? (i := 2) rfl)) (by decide) (fun w h => hts w (List.mem_cons_of_mem _ (List.mem_append_right _ h))) (by decide +kernel) (by decide +kernel) hF hS hP (hl.1.trans hml.symm) dX8_complete_14 dX8_complete_17 dX8_complete_18 dX8_complete_21 hnx (Nat.le_of_ble_eq_true rfl) (Nat.le_of_ble_eq_true rfl) (Nat.le_of_ble_eq_true rfl) (Nat.le_of_ble_eq_true rfl) hlocks (Nat.le_of_ble_eq_true rfl) (Nat.le_of_ble_eq_true rfl) (by rw [m_X8_complete, if_neg c_1, if_pos c_2]) (by decide) (by rw [m_X8_complete, if_neg c_1, if_pos c_2])
def m_X8_takings (z : SpT) (x1 : Int32) (x2 : Int32) : Nat × Int32 × SpT := if (m_X8_isHolder x1) = (0 : Int32) then (1, (0 : Int32), z) else if (m_X8_isKind x2) = (0 : Int32) then (1, (0 : Int32), z) else (0, m_X7_fewestTakings (sU (pN z)) x1 x2, z)
theorem hd_X8_takings : yX8_takings.cls = RX8 ∧ yX8_takings.cls ≠ "java/lang/invoke/MethodHandle" ∧ yX8_takings.cls ≠ "java/lang/invoke/VarHandle" ∧ (parseMethodDescriptor yX8_takings.desc).map (fun d => d.parameters.length) = some 2 := by decide +kernel
set_option maxHeartbeats 8000000 in
set_option maxRecDepth 20000 in
theorem c_X8_takings (l : Launch) (hl0 : l.stackTraces = false) (D : va_G) (cy : Nat → ClassId) (t : FxA) (xa sa sb tr na : Nat → Nat) (ka : Nat → Nat → Nat) (z : SpT) (x1 : Int32) (x2 : Int32) (hN : stOK (pN z)) : EX l D cy t yX8_takings wsX8_takings ({ frames := 6, cells := 1, slots := 6, locals := 96 } : Room) (wSp cy xa sa sb tr na ka z) (wSp cy xa sa sb tr na ka (m_X8_takings z x1 x2).2.2) [.ref (xa 0), .int x1, .int x2] 1 6 (m_X8_takings z x1 x2).1 (m_X8_takings z x1 x2).2.1 := by
  refine EX.body (by decide) rfl (Nat.le_of_ble_eq_true rfl) ?_
  intro p e s m below meth c hx hb hml hnx hr hts hown hlocks hP hG ls hl A hD hA hS hF
  have hl : lv_has ls 3 [(0, .ref (xa 0)), (1, .int x1), (2, .int x2)] := hl
  have hCF : CallFix p m c cX8_takings 3 s ([.ref (xa 0), .int x1, .int x2] : List Value).toArray wsX8_takings RX8 := ⟨hx, hb, hml, hown, hts⟩
  have in_X5 : ∀ w ∈ u_ws RX5 TX5 9, w ∈ wsX8_takings := fun _ h => List.mem_cons_of_mem _ (List.mem_append_left _ (List.mem_append_left _ (List.mem_append_right _ h)))
  have in_X8 : ∀ w ∈ u_ws RX8 TX8 6, w ∈ wsX8_takings := fun _ h => List.mem_cons_of_mem _ (List.mem_append_left _ (List.mem_append_left _ (List.mem_append_left _ (List.mem_append_right _ h))))
  have k_0 := hts (Cond.fieldLink RX8 19 "SparePool" "now" "LSparePool$State;") (List.mem_of_getElem? (i := 3) rfl)
  have k_1 := hts (Cond.initialized RX7) (List.mem_of_getElem? (i := 12) rfl)
  have k_2 := hts (Cond.instanceMethod yX7_fewestTakings) (List.mem_of_getElem? (i := 11) rfl)
  have k_3 := hts (Cond.selects RX7 yX7_fewestTakings yX7_fewestTakings) (List.mem_of_getElem? (i := 13) rfl)
  have hP : va_P D vwCl (wSp cy xa sa sb tr na ka z) s.heap := hP
  refine lv_iload_n hx hb dX8_takings_0 rfl (lv_at hl 1 rfl) ?_
  refine roS (wc := ([] : va_W)) (As := [.int x1]) (rest := []) (c_X8_isHolder l D cy x1) hCF gX8_takings_X8_isHolder rfl hd_X8_isHolder ⟨rfl, rfl, Nat.le_of_ble_eq_true rfl, Nat.le_of_ble_eq_true rfl⟩ hG va_P_nil rfl hl.1 rfl (Nat.le_of_ble_eq_true rfl) dX8_takings_1 ⟨Nat.le_of_ble_eq_true rfl, Nat.le_of_ble_eq_true rfl⟩ ?_
  refine lv_if_eq (tgt := 14) hx hb dX8_takings_4 (by decide) (fun c_1 => ?_) (fun c_1 => ?_)
  · skip
    exact ex_thr (i := 1) (ik := 156) (ic := 158) hx hb hl0 hown (hts (Cond.classLink RX8 156 "java/lang/IndexOutOfBoundsException") (List.mem_of_getElem? (i := 1) rfl)) (hts (Cond.initialized "java/lang/IndexOutOfBoundsException") (List.mem_of_getElem? (i := 2) rfl)) (by decide) (fun w h => hts w (List.mem_cons_of_mem _ (List.mem_append_right _ h))) (by decide +kernel) (by decide +kernel) hF hS hP (hl.1.trans hml.symm) dX8_takings_14 dX8_takings_17 dX8_takings_18 dX8_takings_21 hnx (Nat.le_of_ble_eq_true rfl) (Nat.le_of_ble_eq_true rfl) (Nat.le_of_ble_eq_true rfl) (Nat.le_of_ble_eq_true rfl) hlocks (Nat.le_of_ble_eq_true rfl) (Nat.le_of_ble_eq_true rfl) (by rw [m_X8_takings, if_pos c_1]) (by decide) (by rw [m_X8_takings, if_pos c_1])
  · skip
    refine lv_iload_n hx hb dX8_takings_7 rfl (lv_at hl 2 rfl) ?_
    refine roS (wc := ([] : va_W)) (As := [.int x2]) (rest := []) (c_X8_isKind l D cy x2) hCF gX8_takings_X8_isKind rfl hd_X8_isKind ⟨rfl, rfl, Nat.le_of_ble_eq_true rfl, Nat.le_of_ble_eq_true rfl⟩ hG va_P_nil rfl hl.1 rfl (Nat.le_of_ble_eq_true rfl) dX8_takings_8 ⟨Nat.le_of_ble_eq_true rfl, Nat.le_of_ble_eq_true rfl⟩ ?_
    refine lv_if_ne (tgt := 22) hx hb dX8_takings_11 (by decide) (fun c_2 => ?_) (fun c_2 => ?_)
    · skip
      refine lv_aload_n hx hb dX8_takings_22 rfl (lv_at hl 0 rfl) ?_
      refine va_get (D := D) (ci := 6) (v := .ref (na 0)) (C := RX8) (T := TX8) (N := 6) hx hb hts in_X8 hown hG.1 hP 0 g_Sp_0 rfl 1 (by decide) k_0 (fun _ h9 => h9) rfl dX8_takings_23 ?_
      refine va_getN (D := D) (ci := 3) (v := .ref (na 1)) (C := RX5) (T := TX5) (N := 9) hx hb hts in_X5 hown hG.1 hP 50 g_Sp_50 rfl 0 (by decide) (va_Nw.use rfl (nw_X8_109 hG.2)) (fun _ h9 => h9) rfl dX8_takings_26 ?_
      refine lv_iload_n hx hb dX8_takings_29 rfl (lv_at hl 1 rfl) ?_
      refine lv_iload_n hx hb dX8_takings_30 rfl (lv_at hl 2 rfl) ?_
      refine roVN (wc := (wUn cy (na 1) (na 2) (na 3) (na 4) (na 5) (na 6) (sU (pN z)))) (As := [.int x1, .int x2]) (rest := []) (c_X7_fewestTakings l D cy (na 1) (na 2) (na 3) (na 4) (na 5) (na 6) (sU (pN z)) x1 x2 hN.1) hCF gX8_takings_X7_fewestTakings_n255 (nw_X8_255 hG.2) k_1 k_2 k_3 rfl hd_X7_fewestTakings ⟨rfl, rfl, Nat.le_of_ble_eq_true rfl, Nat.le_of_ble_eq_true rfl⟩ hG (hP.sub (ws' := (wUn cy (na 1) (na 2) (na 3) (na 4) (na 5) (na 6) (sU (pN z)))) [51, 52, 53, 54, 55, 56] u_Sp_Un51) (ci := 5) rfl rfl g_Un_0 rfl hl.1 rfl (Nat.le_of_ble_eq_true rfl) dX8_takings_31 ⟨Nat.le_of_ble_eq_true rfl, Nat.le_of_ble_eq_true rfl⟩ ?_
      exact ex_iret hx hb hr hlocks hP hS (Nat.le_of_ble_eq_true rfl) (Nat.le_of_ble_eq_true rfl) dX8_takings_34 (by rw [m_X8_takings, if_neg c_1, if_neg c_2]) (by rw [m_X8_takings, if_neg c_1, if_neg c_2]) (by rw [m_X8_takings, if_neg c_1, if_neg c_2])
    · skip
      exact ex_thr (i := 1) (ik := 156) (ic := 158) hx hb hl0 hown (hts (Cond.classLink RX8 156 "java/lang/IndexOutOfBoundsException") (List.mem_of_getElem? (i := 1) rfl)) (hts (Cond.initialized "java/lang/IndexOutOfBoundsException") (List.mem_of_getElem? (i := 2) rfl)) (by decide) (fun w h => hts w (List.mem_cons_of_mem _ (List.mem_append_right _ h))) (by decide +kernel) (by decide +kernel) hF hS hP (hl.1.trans hml.symm) dX8_takings_14 dX8_takings_17 dX8_takings_18 dX8_takings_21 hnx (Nat.le_of_ble_eq_true rfl) (Nat.le_of_ble_eq_true rfl) (Nat.le_of_ble_eq_true rfl) (Nat.le_of_ble_eq_true rfl) hlocks (Nat.le_of_ble_eq_true rfl) (Nat.le_of_ble_eq_true rfl) (by rw [m_X8_takings, if_neg c_1, if_pos c_2]) (by decide) (by rw [m_X8_takings, if_neg c_1, if_pos c_2])
def m_X8_bill (z : SpT) (x1 : Int32) (x2 : Int32) : Nat × Int32 × SpT := if (m_X8_isHolder x1) = (0 : Int32) then (1, (0 : Int32), z) else if x2 < (0 : Int32) then (2, (0 : Int32), z) else if x2 ≤ (99 : Int32) then (0, m_X5_feesToPay (pN z) x1 x2, z) else (2, (0 : Int32), z)
theorem hd_X8_bill : yX8_bill.cls = RX8 ∧ yX8_bill.cls ≠ "java/lang/invoke/MethodHandle" ∧ yX8_bill.cls ≠ "java/lang/invoke/VarHandle" ∧ (parseMethodDescriptor yX8_bill.desc).map (fun d => d.parameters.length) = some 2 := by decide +kernel
set_option maxHeartbeats 8000000 in
set_option maxRecDepth 20000 in
theorem c_X8_bill (l : Launch) (hl0 : l.stackTraces = false) (D : va_G) (cy : Nat → ClassId) (t : FxA) (xa sa sb tr na : Nat → Nat) (ka : Nat → Nat → Nat) (z : SpT) (x1 : Int32) (x2 : Int32) (hN : stOK (pN z)) : EX l D cy t yX8_bill wsX8_bill ({ frames := 6, cells := 1, slots := 6, locals := 90 } : Room) (wSp cy xa sa sb tr na ka z) (wSp cy xa sa sb tr na ka (m_X8_bill z x1 x2).2.2) [.ref (xa 0), .int x1, .int x2] 1 6 (m_X8_bill z x1 x2).1 (m_X8_bill z x1 x2).2.1 := by
  refine EX.body (by decide) rfl (Nat.le_of_ble_eq_true rfl) ?_
  intro p e s m below meth c hx hb hml hnx hr hts hown hlocks hP hG ls hl A hD hA hS hF
  have hl : lv_has ls 3 [(0, .ref (xa 0)), (1, .int x1), (2, .int x2)] := hl
  have hCF : CallFix p m c cX8_bill 3 s ([.ref (xa 0), .int x1, .int x2] : List Value).toArray wsX8_bill RX8 := ⟨hx, hb, hml, hown, hts⟩
  have in_X8 : ∀ w ∈ u_ws RX8 TX8 6, w ∈ wsX8_bill := fun _ h => List.mem_cons_of_mem _ (List.mem_append_left _ (List.mem_append_left _ (List.mem_append_left _ (List.mem_append_left _ (List.mem_append_right _ h)))))
  have k_0 := hts (Cond.fieldLink RX8 19 "SparePool" "now" "LSparePool$State;") (List.mem_of_getElem? (i := 5) rfl)
  have k_1 := hts (Cond.initialized RX5) (List.mem_of_getElem? (i := 11) rfl)
  have k_2 := hts (Cond.instanceMethod yX5_feesToPay) (List.mem_of_getElem? (i := 10) rfl)
  have k_3 := hts (Cond.selects RX5 yX5_feesToPay yX5_feesToPay) (List.mem_of_getElem? (i := 12) rfl)
  have hP : va_P D vwCl (wSp cy xa sa sb tr na ka z) s.heap := hP
  refine lv_iload_n hx hb dX8_bill_0 rfl (lv_at hl 1 rfl) ?_
  refine roS (wc := ([] : va_W)) (As := [.int x1]) (rest := []) (c_X8_isHolder l D cy x1) hCF gX8_bill_X8_isHolder rfl hd_X8_isHolder ⟨rfl, rfl, Nat.le_of_ble_eq_true rfl, Nat.le_of_ble_eq_true rfl⟩ hG va_P_nil rfl hl.1 rfl (Nat.le_of_ble_eq_true rfl) dX8_bill_1 ⟨Nat.le_of_ble_eq_true rfl, Nat.le_of_ble_eq_true rfl⟩ ?_
  refine lv_if_ne (tgt := 15) hx hb dX8_bill_4 (by decide) (fun c_1 => ?_) (fun c_1 => ?_)
  · skip
    refine lv_iload_n hx hb dX8_bill_15 rfl (lv_at hl 2 rfl) ?_
    refine lv_if_lt (tgt := 25) hx hb dX8_bill_16 (by decide) (fun c_2 => ?_) (fun c_2 => ?_)
    · skip
      exact ex_thr (i := 2) (ik := 41) (ic := 43) hx hb hl0 hown (hts (Cond.classLink RX8 41 "java/lang/IllegalArgumentException") (List.mem_of_getElem? (i := 3) rfl)) (hts (Cond.initialized "java/lang/IllegalArgumentException") (List.mem_of_getElem? (i := 4) rfl)) (by decide) (fun w h => hts w (List.mem_cons_of_mem _ (List.mem_append_right _ h))) (by decide +kernel) (by decide +kernel) hF hS hP (hl.1.trans hml.symm) dX8_bill_25 dX8_bill_28 dX8_bill_29 dX8_bill_32 hnx (Nat.le_of_ble_eq_true rfl) (Nat.le_of_ble_eq_true rfl) (Nat.le_of_ble_eq_true rfl) (Nat.le_of_ble_eq_true rfl) hlocks (Nat.le_of_ble_eq_true rfl) (Nat.le_of_ble_eq_true rfl) (by rw [m_X8_bill, if_neg c_1, if_pos c_2]) (by decide) (by rw [m_X8_bill, if_neg c_1, if_pos c_2])
    · skip
      refine lv_iload_n hx hb dX8_bill_19 rfl (lv_at hl 2 rfl) ?_
      refine lv_bipush (v := (99 : Int32)) hx hb dX8_bill_20 (by decide) ?_
      refine lv_icmp_le (tgt := 33) hx hb dX8_bill_22 (by decide) (fun c_3 => ?_) (fun c_3 => ?_)
      · skip
        refine lv_aload_n hx hb dX8_bill_33 rfl (lv_at hl 0 rfl) ?_
        refine va_get (D := D) (ci := 6) (v := .ref (na 0)) (C := RX8) (T := TX8) (N := 6) hx hb hts in_X8 hown hG.1 hP 0 g_Sp_0 rfl 1 (by decide) k_0 (fun _ h9 => h9) rfl dX8_bill_34 ?_
        refine lv_iload_n hx hb dX8_bill_37 rfl (lv_at hl 1 rfl) ?_
        refine lv_iload_n hx hb dX8_bill_38 rfl (lv_at hl 2 rfl) ?_
        refine roVN (wc := (wSt cy na (pN z))) (As := [.int x1, .int x2]) (rest := []) (c_X5_feesToPay l D cy na (pN z) x1 x2 hN) hCF gX8_bill_X5_feesToPay_n258 (nw_X8_258 hG.2) k_1 k_2 k_3 rfl hd_X5_feesToPay ⟨rfl, rfl, Nat.le_of_ble_eq_true rfl, Nat.le_of_ble_eq_true rfl⟩ hG (hP.sub (ws' := (wSt cy na (pN z))) [50, 51, 52, 53, 54, 55, 56, 57, 58, 59, 60, 61, 62, 63, 64] u_Sp_St50) (ci := 3) rfl rfl g_St_0 rfl hl.1 rfl (Nat.le_of_ble_eq_true rfl) dX8_bill_39 ⟨Nat.le_of_ble_eq_true rfl, Nat.le_of_ble_eq_true rfl⟩ ?_
        exact ex_iret hx hb hr hlocks hP hS (Nat.le_of_ble_eq_true rfl) (Nat.le_of_ble_eq_true rfl) dX8_bill_42 (by rw [m_X8_bill, if_neg c_1, if_neg c_2, if_pos c_3]) (by rw [m_X8_bill, if_neg c_1, if_neg c_2, if_pos c_3]) (by rw [m_X8_bill, if_neg c_1, if_neg c_2, if_pos c_3])
      · skip
        exact ex_thr (i := 2) (ik := 41) (ic := 43) hx hb hl0 hown (hts (Cond.classLink RX8 41 "java/lang/IllegalArgumentException") (List.mem_of_getElem? (i := 3) rfl)) (hts (Cond.initialized "java/lang/IllegalArgumentException") (List.mem_of_getElem? (i := 4) rfl)) (by decide) (fun w h => hts w (List.mem_cons_of_mem _ (List.mem_append_right _ h))) (by decide +kernel) (by decide +kernel) hF hS hP (hl.1.trans hml.symm) dX8_bill_25 dX8_bill_28 dX8_bill_29 dX8_bill_32 hnx (Nat.le_of_ble_eq_true rfl) (Nat.le_of_ble_eq_true rfl) (Nat.le_of_ble_eq_true rfl) (Nat.le_of_ble_eq_true rfl) hlocks (Nat.le_of_ble_eq_true rfl) (Nat.le_of_ble_eq_true rfl) (by rw [m_X8_bill, if_neg c_1, if_neg c_2, if_neg c_3]) (by decide) (by rw [m_X8_bill, if_neg c_1, if_neg c_2, if_neg c_3])
  · skip
    exact ex_thr (i := 1) (ik := 156) (ic := 158) hx hb hl0 hown (hts (Cond.classLink RX8 156 "java/lang/IndexOutOfBoundsException") (List.mem_of_getElem? (i := 1) rfl)) (hts (Cond.initialized "java/lang/IndexOutOfBoundsException") (List.mem_of_getElem? (i := 2) rfl)) (by decide) (fun w h => hts w (List.mem_cons_of_mem _ (List.mem_append_left _ (List.mem_append_right _ h)))) (by decide +kernel) (by decide +kernel) hF hS hP (hl.1.trans hml.symm) dX8_bill_7 dX8_bill_10 dX8_bill_11 dX8_bill_14 hnx (Nat.le_of_ble_eq_true rfl) (Nat.le_of_ble_eq_true rfl) (Nat.le_of_ble_eq_true rfl) (Nat.le_of_ble_eq_true rfl) hlocks (Nat.le_of_ble_eq_true rfl) (Nat.le_of_ble_eq_true rfl) (by rw [m_X8_bill, if_pos c_1]) (by decide) (by rw [m_X8_bill, if_pos c_1])
def m_X8_cheapest (z : SpT) (x1 : Int32) (x2 : Int32) : Nat × Int32 × SpT := if (m_X8_isHolder x1) = (0 : Int32) then (1, (0 : Int32), z) else if (m_X8_isKind x2) = (0 : Int32) then (1, (0 : Int32), z) else (0, m_X5_cheapestCore (pN z) x1 x2, z)
theorem hd_X8_cheapest : yX8_cheapest.cls = RX8 ∧ yX8_cheapest.cls ≠ "java/lang/invoke/MethodHandle" ∧ yX8_cheapest.cls ≠ "java/lang/invoke/VarHandle" ∧ (parseMethodDescriptor yX8_cheapest.desc).map (fun d => d.parameters.length) = some 2 := by decide +kernel
set_option maxHeartbeats 8000000 in
set_option maxRecDepth 20000 in
theorem c_X8_cheapest (l : Launch) (hl0 : l.stackTraces = false) (D : va_G) (cy : Nat → ClassId) (t : FxA) (xa sa sb tr na : Nat → Nat) (ka : Nat → Nat → Nat) (z : SpT) (x1 : Int32) (x2 : Int32) (hN : stOK (pN z)) : EX l D cy t yX8_cheapest wsX8_cheapest ({ frames := 6, cells := 1, slots := 6, locals := 87 } : Room) (wSp cy xa sa sb tr na ka z) (wSp cy xa sa sb tr na ka (m_X8_cheapest z x1 x2).2.2) [.ref (xa 0), .int x1, .int x2] 1 6 (m_X8_cheapest z x1 x2).1 (m_X8_cheapest z x1 x2).2.1 := by
  refine EX.body (by decide) rfl (Nat.le_of_ble_eq_true rfl) ?_
  intro p e s m below meth c hx hb hml hnx hr hts hown hlocks hP hG ls hl A hD hA hS hF
  have hl : lv_has ls 3 [(0, .ref (xa 0)), (1, .int x1), (2, .int x2)] := hl
  have hCF : CallFix p m c cX8_cheapest 3 s ([.ref (xa 0), .int x1, .int x2] : List Value).toArray wsX8_cheapest RX8 := ⟨hx, hb, hml, hown, hts⟩
  have in_X8 : ∀ w ∈ u_ws RX8 TX8 6, w ∈ wsX8_cheapest := fun _ h => List.mem_cons_of_mem _ (List.mem_append_left _ (List.mem_append_left _ (List.mem_append_left _ (List.mem_append_right _ h))))
  have k_0 := hts (Cond.fieldLink RX8 19 "SparePool" "now" "LSparePool$State;") (List.mem_of_getElem? (i := 3) rfl)
  have k_1 := hts (Cond.initialized RX5) (List.mem_of_getElem? (i := 12) rfl)
  have k_2 := hts (Cond.instanceMethod yX5_cheapestCore) (List.mem_of_getElem? (i := 11) rfl)
  have k_3 := hts (Cond.selects RX5 yX5_cheapestCore yX5_cheapestCore) (List.mem_of_getElem? (i := 13) rfl)
  have hP : va_P D vwCl (wSp cy xa sa sb tr na ka z) s.heap := hP
  refine lv_iload_n hx hb dX8_cheapest_0 rfl (lv_at hl 1 rfl) ?_
  refine roS (wc := ([] : va_W)) (As := [.int x1]) (rest := []) (c_X8_isHolder l D cy x1) hCF gX8_cheapest_X8_isHolder rfl hd_X8_isHolder ⟨rfl, rfl, Nat.le_of_ble_eq_true rfl, Nat.le_of_ble_eq_true rfl⟩ hG va_P_nil rfl hl.1 rfl (Nat.le_of_ble_eq_true rfl) dX8_cheapest_1 ⟨Nat.le_of_ble_eq_true rfl, Nat.le_of_ble_eq_true rfl⟩ ?_
  refine lv_if_eq (tgt := 14) hx hb dX8_cheapest_4 (by decide) (fun c_1 => ?_) (fun c_1 => ?_)
  · skip
    exact ex_thr (i := 1) (ik := 156) (ic := 158) hx hb hl0 hown (hts (Cond.classLink RX8 156 "java/lang/IndexOutOfBoundsException") (List.mem_of_getElem? (i := 1) rfl)) (hts (Cond.initialized "java/lang/IndexOutOfBoundsException") (List.mem_of_getElem? (i := 2) rfl)) (by decide) (fun w h => hts w (List.mem_cons_of_mem _ (List.mem_append_right _ h))) (by decide +kernel) (by decide +kernel) hF hS hP (hl.1.trans hml.symm) dX8_cheapest_14 dX8_cheapest_17 dX8_cheapest_18 dX8_cheapest_21 hnx (Nat.le_of_ble_eq_true rfl) (Nat.le_of_ble_eq_true rfl) (Nat.le_of_ble_eq_true rfl) (Nat.le_of_ble_eq_true rfl) hlocks (Nat.le_of_ble_eq_true rfl) (Nat.le_of_ble_eq_true rfl) (by rw [m_X8_cheapest, if_pos c_1]) (by decide) (by rw [m_X8_cheapest, if_pos c_1])
  · skip
    refine lv_iload_n hx hb dX8_cheapest_7 rfl (lv_at hl 2 rfl) ?_
    refine roS (wc := ([] : va_W)) (As := [.int x2]) (rest := []) (c_X8_isKind l D cy x2) hCF gX8_cheapest_X8_isKind rfl hd_X8_isKind ⟨rfl, rfl, Nat.le_of_ble_eq_true rfl, Nat.le_of_ble_eq_true rfl⟩ hG va_P_nil rfl hl.1 rfl (Nat.le_of_ble_eq_true rfl) dX8_cheapest_8 ⟨Nat.le_of_ble_eq_true rfl, Nat.le_of_ble_eq_true rfl⟩ ?_
    refine lv_if_ne (tgt := 22) hx hb dX8_cheapest_11 (by decide) (fun c_2 => ?_) (fun c_2 => ?_)
    · skip
      refine lv_aload_n hx hb dX8_cheapest_22 rfl (lv_at hl 0 rfl) ?_
      refine va_get (D := D) (ci := 6) (v := .ref (na 0)) (C := RX8) (T := TX8) (N := 6) hx hb hts in_X8 hown hG.1 hP 0 g_Sp_0 rfl 1 (by decide) k_0 (fun _ h9 => h9) rfl dX8_cheapest_23 ?_
      refine lv_iload_n hx hb dX8_cheapest_26 rfl (lv_at hl 1 rfl) ?_
      refine lv_iload_n hx hb dX8_cheapest_27 rfl (lv_at hl 2 rfl) ?_
      refine roVN (wc := (wSt cy na (pN z))) (As := [.int x1, .int x2]) (rest := []) (c_X5_cheapestCore l D cy na (pN z) x1 x2 hN) hCF gX8_cheapest_X5_cheapestCore_n264 (nw_X8_264 hG.2) k_1 k_2 k_3 rfl hd_X5_cheapestCore ⟨rfl, rfl, Nat.le_of_ble_eq_true rfl, Nat.le_of_ble_eq_true rfl⟩ hG (hP.sub (ws' := (wSt cy na (pN z))) [50, 51, 52, 53, 54, 55, 56, 57, 58, 59, 60, 61, 62, 63, 64] u_Sp_St50) (ci := 3) rfl rfl g_St_0 rfl hl.1 rfl (Nat.le_of_ble_eq_true rfl) dX8_cheapest_28 ⟨Nat.le_of_ble_eq_true rfl, Nat.le_of_ble_eq_true rfl⟩ ?_
      exact ex_iret hx hb hr hlocks hP hS (Nat.le_of_ble_eq_true rfl) (Nat.le_of_ble_eq_true rfl) dX8_cheapest_31 (by rw [m_X8_cheapest, if_neg c_1, if_neg c_2]) (by rw [m_X8_cheapest, if_neg c_1, if_neg c_2]) (by rw [m_X8_cheapest, if_neg c_1, if_neg c_2])
    · skip
      exact ex_thr (i := 1) (ik := 156) (ic := 158) hx hb hl0 hown (hts (Cond.classLink RX8 156 "java/lang/IndexOutOfBoundsException") (List.mem_of_getElem? (i := 1) rfl)) (hts (Cond.initialized "java/lang/IndexOutOfBoundsException") (List.mem_of_getElem? (i := 2) rfl)) (by decide) (fun w h => hts w (List.mem_cons_of_mem _ (List.mem_append_right _ h))) (by decide +kernel) (by decide +kernel) hF hS hP (hl.1.trans hml.symm) dX8_cheapest_14 dX8_cheapest_17 dX8_cheapest_18 dX8_cheapest_21 hnx (Nat.le_of_ble_eq_true rfl) (Nat.le_of_ble_eq_true rfl) (Nat.le_of_ble_eq_true rfl) (Nat.le_of_ble_eq_true rfl) hlocks (Nat.le_of_ble_eq_true rfl) (Nat.le_of_ble_eq_true rfl) (by rw [m_X8_cheapest, if_neg c_1, if_pos c_2]) (by decide) (by rw [m_X8_cheapest, if_neg c_1, if_pos c_2])
