def m_X8_setting (z : SpT) (x1 : Int32) : Nat × Int32 × SpT := if (m_X8_isSetting x1) = (0 : Int32) then (2, (0 : Int32), z) else (0, (sS (pN z)) x1.toNatClampNeg, z)
theorem hd_X8_setting : yX8_setting.cls = RX8 ∧ yX8_setting.cls ≠ "java/lang/invoke/MethodHandle" ∧ yX8_setting.cls ≠ "java/lang/invoke/VarHandle" ∧ (parseMethodDescriptor yX8_setting.desc).map (fun d => d.parameters.length) = some 1 := by decide +kernel
set_option maxHeartbeats 8000000 in
set_option maxRecDepth 20000 in
theorem c_X8_setting (l : Launch) (hl0 : l.stackTraces = false) (D : va_G) (cy : Nat → ClassId) (t : FxA) (xa sa sb tr na : Nat → Nat) (ka : Nat → Nat → Nat) (z : SpT) (x1 : Int32) (hN : stOK (pN z)) : EX l D cy t yX8_setting wsX8_setting ({ frames := 6, cells := 1, slots := 6, locals := 81 } : Room) (wSp cy xa sa sb tr na ka z) (wSp cy xa sa sb tr na ka (m_X8_setting z x1).2.2) [.ref (xa 0), .int x1] 1 6 (m_X8_setting z x1).1 (m_X8_setting z x1).2.1 := by
  refine EX.body (by decide) rfl (Nat.le_of_ble_eq_true rfl) ?_
  intro p e s m below meth c hx hb hml hnx hr hts hown hlocks hP hG ls hl A hD hA hS hF
  have hl : lv_has ls 2 [(0, .ref (xa 0)), (1, .int x1)] := hl
  have hCF : CallFix p m c cX8_setting 2 s ([.ref (xa 0), .int x1] : List Value).toArray wsX8_setting RX8 := ⟨hx, hb, hml, hown, hts⟩
  have in_X5 : ∀ w ∈ u_ws RX5 TX5 9, w ∈ wsX8_setting := fun _ h => List.mem_cons_of_mem _ (List.mem_append_left _ (List.mem_append_right _ h))
  have in_X8 : ∀ w ∈ u_ws RX8 TX8 6, w ∈ wsX8_setting := fun _ h => List.mem_cons_of_mem _ (List.mem_append_left _ (List.mem_append_left _ (List.mem_append_right _ h)))
  have k_0 := hts (Cond.fieldLink RX8 19 "SparePool" "now" "LSparePool$State;") (List.mem_of_getElem? (i := 3) rfl)
  have hP : va_P D vwCl (wSp cy xa sa sb tr na ka z) s.heap := hP
  refine lv_iload_n hx hb dX8_setting_0 rfl (lv_at hl 1 rfl) ?_
  refine roS (wc := ([] : va_W)) (As := [.int x1]) (rest := []) (c_X8_isSetting l D cy x1) hCF gX8_setting_X8_isSetting rfl hd_X8_isSetting ⟨rfl, rfl, Nat.le_of_ble_eq_true rfl, Nat.le_of_ble_eq_true rfl⟩ hG va_P_nil rfl hl.1 rfl (Nat.le_of_ble_eq_true rfl) dX8_setting_1 ⟨Nat.le_of_ble_eq_true rfl, Nat.le_of_ble_eq_true rfl⟩ ?_
  refine lv_if_ne (tgt := 15) hx hb dX8_setting_4 (by decide) (fun c_1 => ?_) (fun c_1 => ?_)
  · skip
    refine lv_aload_n hx hb dX8_setting_15 rfl (lv_at hl 0 rfl) ?_
    refine va_get (D := D) (ci := 6) (v := .ref (na 0)) (C := RX8) (T := TX8) (N := 6) hx hb hts in_X8 hown hG.1 hP 0 g_Sp_0 rfl 1 (by decide) k_0 (fun _ h9 => h9) rfl dX8_setting_16 ?_
    refine va_getN (D := D) (ci := 3) (v := .ref (na 14)) (C := RX5) (T := TX5) (N := 9) hx hb hts in_X5 hown hG.1 hP 50 g_Sp_50 rfl 4 (by decide) (va_Nw.use rfl (nw_X8_220 hG.2)) (fun _ h9 => h9) rfl dX8_setting_19 ?_
    refine lv_iload_n hx hb dX8_setting_22 rfl (lv_at hl 1 rfl) ?_
    refine va_iald hx hb hG.1 hP 64 0 (n := 3) (f := (sS (pN z))) g_Sp_64 rfl (bd_isSetting c_1) dX8_setting_23 ?_
    exact ex_iret hx hb hr hlocks hP hS (Nat.le_of_ble_eq_true rfl) (Nat.le_of_ble_eq_true rfl) dX8_setting_24 (by rw [m_X8_setting, if_neg c_1]) (by rw [m_X8_setting, if_neg c_1]) (by rw [m_X8_setting, if_neg c_1])
  · skip
    exact ex_thr (i := 2) (ik := 41) (ic := 43) hx hb hl0 hown (hts (Cond.classLink RX8 41 "java/lang/IllegalArgumentException") (List.mem_of_getElem? (i := 1) rfl)) (hts (Cond.initialized "java/lang/IllegalArgumentException") (List.mem_of_getElem? (i := 2) rfl)) (by decide) (fun w h => hts w (List.mem_cons_of_mem _ (List.mem_append_right _ h))) (by decide +kernel) (by decide +kernel) hF hS hP (hl.1.trans hml.symm) dX8_setting_7 dX8_setting_10 dX8_setting_11 dX8_setting_14 hnx (Nat.le_of_ble_eq_true rfl) (Nat.le_of_ble_eq_true rfl) (Nat.le_of_ble_eq_true rfl) (Nat.le_of_ble_eq_true rfl) hlocks (Nat.le_of_ble_eq_true rfl) (Nat.le_of_ble_eq_true rfl) (by rw [m_X8_setting, if_pos c_1]) (by decide) (by rw [m_X8_setting, if_pos c_1])
def m_X8_owed (z : SpT) (x1 : Int32) (x2 : Int32) (x3 : Int32) (x4 : Int32) : Nat × Int32 × SpT := if (m_X8_isHolder x1) = (0 : Int32) then (1, (0 : Int32), z) else if (m_X8_isHolder x2) = (0 : Int32) then (1, (0 : Int32), z) else if (m_X8_isKind x3) = (0 : Int32) then (1, (0 : Int32), z) else if (m_X8_isPart x4) = (0 : Int32) then (1, (0 : Int32), z) else (0, m_X1_between (sD (pN z)) x1 x2 x3 x4, z)
theorem hd_X8_owed : yX8_owed.cls = RX8 ∧ yX8_owed.cls ≠ "java/lang/invoke/MethodHandle" ∧ yX8_owed.cls ≠ "java/lang/invoke/VarHandle" ∧ (parseMethodDescriptor yX8_owed.desc).map (fun d => d.parameters.length) = some 4 := by decide +kernel
set_option maxHeartbeats 8000000 in
set_option maxRecDepth 20000 in
theorem c_X8_owed (l : Launch) (hl0 : l.stackTraces = false) (D : va_G) (cy : Nat → ClassId) (t : FxA) (xa sa sb tr na : Nat → Nat) (ka : Nat → Nat → Nat) (z : SpT) (x1 : Int32) (x2 : Int32) (x3 : Int32) (x4 : Int32) (hN : stOK (pN z)) : EX l D cy t yX8_owed wsX8_owed ({ frames := 6, cells := 1, slots := 6, locals := 81 } : Room) (wSp cy xa sa sb tr na ka z) (wSp cy xa sa sb tr na ka (m_X8_owed z x1 x2 x3 x4).2.2) [.ref (xa 0), .int x1, .int x2, .int x3, .int x4] 1 6 (m_X8_owed z x1 x2 x3 x4).1 (m_X8_owed z x1 x2 x3 x4).2.1 := by
  refine EX.body (by decide) rfl (Nat.le_of_ble_eq_true rfl) ?_
  intro p e s m below meth c hx hb hml hnx hr hts hown hlocks hP hG ls hl A hD hA hS hF
  have hl : lv_has ls 5 [(0, .ref (xa 0)), (1, .int x1), (2, .int x2), (3, .int x3), (4, .int x4)] := hl
  have hCF : CallFix p m c cX8_owed 5 s ([.ref (xa 0), .int x1, .int x2, .int x3, .int x4] : List Value).toArray wsX8_owed RX8 := ⟨hx, hb, hml, hown, hts⟩
  have in_X5 : ∀ w ∈ u_ws RX5 TX5 9, w ∈ wsX8_owed := fun _ h => List.mem_cons_of_mem _ (List.mem_append_left _ (List.mem_append_left _ (List.mem_append_right _ h)))
  have in_X8 : ∀ w ∈ u_ws RX8 TX8 6, w ∈ wsX8_owed := fun _ h => List.mem_cons_of_mem _ (List.mem_append_left _ (List.mem_append_left _ (List.mem_append_left _ (List.mem_append_right _ h))))
  have k_0 := hts (Cond.fieldLink RX8 19 "SparePool" "now" "LSparePool$State;") (List.mem_of_getElem? (i := 3) rfl)
  have k_1 := hts (Cond.initialized RX1) (List.mem_of_getElem? (i := 15) rfl)
  have k_2 := hts (Cond.instanceMethod yX1_between) (List.mem_of_getElem? (i := 14) rfl)
  have k_3 := hts (Cond.selects RX1 yX1_between yX1_between) (List.mem_of_getElem? (i := 16) rfl)
  have hP : va_P D vwCl (wSp cy xa sa sb tr na ka z) s.heap := hP
  refine lv_iload_n hx hb dX8_owed_0 rfl (lv_at hl 1 rfl) ?_
  refine roS (wc := ([] : va_W)) (As := [.int x1]) (rest := []) (c_X8_isHolder l D cy x1) hCF gX8_owed_X8_isHolder rfl hd_X8_isHolder ⟨rfl, rfl, Nat.le_of_ble_eq_true rfl, Nat.le_of_ble_eq_true rfl⟩ hG va_P_nil rfl hl.1 rfl (Nat.le_of_ble_eq_true rfl) dX8_owed_1 ⟨Nat.le_of_ble_eq_true rfl, Nat.le_of_ble_eq_true rfl⟩ ?_
  refine lv_if_eq (tgt := 29) hx hb dX8_owed_4 (by decide) (fun c_1 => ?_) (fun c_1 => ?_)
  · skip
    exact ex_thr (i := 1) (ik := 156) (ic := 158) hx hb hl0 hown (hts (Cond.classLink RX8 156 "java/lang/IndexOutOfBoundsException") (List.mem_of_getElem? (i := 1) rfl)) (hts (Cond.initialized "java/lang/IndexOutOfBoundsException") (List.mem_of_getElem? (i := 2) rfl)) (by decide) (fun w h => hts w (List.mem_cons_of_mem _ (List.mem_append_right _ h))) (by decide +kernel) (by decide +kernel) hF hS hP (hl.1.trans hml.symm) dX8_owed_29 dX8_owed_32 dX8_owed_33 dX8_owed_36 hnx (Nat.le_of_ble_eq_true rfl) (Nat.le_of_ble_eq_true rfl) (Nat.le_of_ble_eq_true rfl) (Nat.le_of_ble_eq_true rfl) hlocks (Nat.le_of_ble_eq_true rfl) (Nat.le_of_ble_eq_true rfl) (by rw [m_X8_owed, if_pos c_1]) (by decide) (by rw [m_X8_owed, if_pos c_1])
  · skip
    refine lv_iload_n hx hb dX8_owed_7 rfl (lv_at hl 2 rfl) ?_
    refine roS (wc := ([] : va_W)) (As := [.int x2]) (rest := []) (c_X8_isHolder l D cy x2) hCF gX8_owed_X8_isHolder rfl hd_X8_isHolder ⟨rfl, rfl, Nat.le_of_ble_eq_true rfl, Nat.le_of_ble_eq_true rfl⟩ hG va_P_nil rfl hl.1 rfl (Nat.le_of_ble_eq_true rfl) dX8_owed_8 ⟨Nat.le_of_ble_eq_true rfl, Nat.le_of_ble_eq_true rfl⟩ ?_
    refine lv_if_eq (tgt := 29) hx hb dX8_owed_11 (by decide) (fun c_2 => ?_) (fun c_2 => ?_)
    · skip
      exact ex_thr (i := 1) (ik := 156) (ic := 158) hx hb hl0 hown (hts (Cond.classLink RX8 156 "java/lang/IndexOutOfBoundsException") (List.mem_of_getElem? (i := 1) rfl)) (hts (Cond.initialized "java/lang/IndexOutOfBoundsException") (List.mem_of_getElem? (i := 2) rfl)) (by decide) (fun w h => hts w (List.mem_cons_of_mem _ (List.mem_append_right _ h))) (by decide +kernel) (by decide +kernel) hF hS hP (hl.1.trans hml.symm) dX8_owed_29 dX8_owed_32 dX8_owed_33 dX8_owed_36 hnx (Nat.le_of_ble_eq_true rfl) (Nat.le_of_ble_eq_true rfl) (Nat.le_of_ble_eq_true rfl) (Nat.le_of_ble_eq_true rfl) hlocks (Nat.le_of_ble_eq_true rfl) (Nat.le_of_ble_eq_true rfl) (by rw [m_X8_owed, if_neg c_1, if_pos c_2]) (by decide) (by rw [m_X8_owed, if_neg c_1, if_pos c_2])
    · skip
      refine lv_iload_n hx hb dX8_owed_14 rfl (lv_at hl 3 rfl) ?_
      refine roS (wc := ([] : va_W)) (As := [.int x3]) (rest := []) (c_X8_isKind l D cy x3) hCF gX8_owed_X8_isKind rfl hd_X8_isKind ⟨rfl, rfl, Nat.le_of_ble_eq_true rfl, Nat.le_of_ble_eq_true rfl⟩ hG va_P_nil rfl hl.1 rfl (Nat.le_of_ble_eq_true rfl) dX8_owed_15 ⟨Nat.le_of_ble_eq_true rfl, Nat.le_of_ble_eq_true rfl⟩ ?_
      refine lv_if_eq (tgt := 29) hx hb dX8_owed_18 (by decide) (fun c_3 => ?_) (fun c_3 => ?_)
      · skip
        exact ex_thr (i := 1) (ik := 156) (ic := 158) hx hb hl0 hown (hts (Cond.classLink RX8 156 "java/lang/IndexOutOfBoundsException") (List.mem_of_getElem? (i := 1) rfl)) (hts (Cond.initialized "java/lang/IndexOutOfBoundsException") (List.mem_of_getElem? (i := 2) rfl)) (by decide) (fun w h => hts w (List.mem_cons_of_mem _ (List.mem_append_right _ h))) (by decide +kernel) (by decide +kernel) hF hS hP (hl.1.trans hml.symm) dX8_owed_29 dX8_owed_32 dX8_owed_33 dX8_owed_36 hnx (Nat.le_of_ble_eq_true rfl) (Nat.le_of_ble_eq_true rfl) (Nat.le_of_ble_eq_true rfl) (Nat.le_of_ble_eq_true rfl) hlocks (Nat.le_of_ble_eq_true rfl) (Nat.le_of_ble_eq_true rfl) (by rw [m_X8_owed, if_neg c_1, if_neg c_2, if_pos c_3]) (by decide) (by rw [m_X8_owed, if_neg c_1, if_neg c_2, if_pos c_3])
      · skip
        refine lv_iload hx hb dX8_owed_21 (lv_at hl 4 rfl) ?_
        refine roS (wc := ([] : va_W)) (As := [.int x4]) (rest := []) (c_X8_isPart l D cy x4) hCF gX8_owed_X8_isPart rfl hd_X8_isPart ⟨rfl, rfl, Nat.le_of_ble_eq_true rfl, Nat.le_of_ble_eq_true rfl⟩ hG va_P_nil rfl hl.1 rfl (Nat.le_of_ble_eq_true rfl) dX8_owed_23 ⟨Nat.le_of_ble_eq_true rfl, Nat.le_of_ble_eq_true rfl⟩ ?_
        refine lv_if_ne (tgt := 37) hx hb dX8_owed_26 (by decide) (fun c_4 => ?_) (fun c_4 => ?_)
        · skip
          refine lv_aload_n hx hb dX8_owed_37 rfl (lv_at hl 0 rfl) ?_
          refine va_get (D := D) (ci := 6) (v := .ref (na 0)) (C := RX8) (T := TX8) (N := 6) hx hb hts in_X8 hown hG.1 hP 0 g_Sp_0 rfl 1 (by decide) k_0 (fun _ h9 => h9) rfl dX8_owed_38 ?_
          refine va_getN (D := D) (ci := 3) (v := .ref (na 11)) (C := RX5) (T := TX5) (N := 9) hx hb hts in_X5 hown hG.1 hP 50 g_Sp_50 rfl 2 (by decide) (va_Nw.use rfl (nw_X8_136 hG.2)) (fun _ h9 => h9) rfl dX8_owed_41 ?_
          refine lv_iload_n hx hb dX8_owed_44 rfl (lv_at hl 1 rfl) ?_
          refine lv_iload_n hx hb dX8_owed_45 rfl (lv_at hl 2 rfl) ?_
          refine lv_iload_n hx hb dX8_owed_46 rfl (lv_at hl 3 rfl) ?_
          refine lv_iload hx hb dX8_owed_47 (lv_at hl 4 rfl) ?_
          refine roVN (wc := (wDe cy (na 11) (na 12) (sD (pN z)))) (As := [.int x1, .int x2, .int x3, .int x4]) (rest := []) (c_X1_between l D cy (na 11) (na 12) (sD (pN z)) x1 x2 x3 x4) hCF gX8_owed_X1_between_n207 (nw_X8_207 hG.2) k_1 k_2 k_3 rfl hd_X1_between ⟨rfl, rfl, Nat.le_of_ble_eq_true rfl, Nat.le_of_ble_eq_true rfl⟩ hG (hP.sub (ws' := (wDe cy (na 11) (na 12) (sD (pN z)))) [61, 62] u_Sp_De61) (ci := 1) rfl rfl g_De_0 rfl hl.1 rfl (Nat.le_of_ble_eq_true rfl) dX8_owed_49 ⟨Nat.le_of_ble_eq_true rfl, Nat.le_of_ble_eq_true rfl⟩ ?_
          exact ex_iret hx hb hr hlocks hP hS (Nat.le_of_ble_eq_true rfl) (Nat.le_of_ble_eq_true rfl) dX8_owed_52 (by rw [m_X8_owed, if_neg c_1, if_neg c_2, if_neg c_3, if_neg c_4]) (by rw [m_X8_owed, if_neg c_1, if_neg c_2, if_neg c_3, if_neg c_4]) (by rw [m_X8_owed, if_neg c_1, if_neg c_2, if_neg c_3, if_neg c_4])
        · skip
          exact ex_thr (i := 1) (ik := 156) (ic := 158) hx hb hl0 hown (hts (Cond.classLink RX8 156 "java/lang/IndexOutOfBoundsException") (List.mem_of_getElem? (i := 1) rfl)) (hts (Cond.initialized "java/lang/IndexOutOfBoundsException") (List.mem_of_getElem? (i := 2) rfl)) (by decide) (fun w h => hts w (List.mem_cons_of_mem _ (List.mem_append_right _ h))) (by decide +kernel) (by decide +kernel) hF hS hP (hl.1.trans hml.symm) dX8_owed_29 dX8_owed_32 dX8_owed_33 dX8_owed_36 hnx (Nat.le_of_ble_eq_true rfl) (Nat.le_of_ble_eq_true rfl) (Nat.le_of_ble_eq_true rfl) (Nat.le_of_ble_eq_true rfl) hlocks (Nat.le_of_ble_eq_true rfl) (Nat.le_of_ble_eq_true rfl) (by rw [m_X8_owed, if_neg c_1, if_neg c_2, if_neg c_3, if_pos c_4]) (by decide) (by rw [m_X8_owed, if_neg c_1, if_neg c_2, if_neg c_3, if_pos c_4])
def m_X8_firstDue (z : SpT) : Int32 × SpT := (m_X7_dueFirst (sU (pN z)), z)
theorem hd_X8_firstDue : yX8_firstDue.cls = RX8 ∧ yX8_firstDue.cls ≠ "java/lang/invoke/MethodHandle" ∧ yX8_firstDue.cls ≠ "java/lang/invoke/VarHandle" ∧ (parseMethodDescriptor yX8_firstDue.desc).map (fun d => d.parameters.length) = some 0 := by decide +kernel
set_option maxHeartbeats 8000000 in
set_option maxRecDepth 20000 in
theorem c_X8_firstDue (l : Launch) (D : va_G) (cy : Nat → ClassId) (t : FxA) (xa sa sb tr na : Nat → Nat) (ka : Nat → Nat → Nat) (z : SpT) (hN : stOK (pN z)) : MUf l D cy t yX8_firstDue wsX8_firstDue ({ frames := 3, cells := 0, slots := 0, locals := 64 } : Room) (wSp cy xa sa sb tr na ka z) (wSp cy xa sa sb tr na ka (m_X8_firstDue z).2) [.ref (xa 0)] (m_X8_firstDue z).1 := by
  refine MUf.body (by decide) rfl (Nat.le_of_ble_eq_true rfl) ?_
  intro p e s m below meth c hx hb hml hr hts hown hlocks hP hG ls hl A hD hA hS hF
  have hl : lv_has ls 1 [(0, .ref (xa 0))] := hl
  have hCF : CallFix p m c cX8_firstDue 1 s ([.ref (xa 0)] : List Value).toArray wsX8_firstDue RX8 := ⟨hx, hb, hml, hown, hts⟩
  have in_X5 : ∀ w ∈ u_ws RX5 TX5 9, w ∈ wsX8_firstDue := fun _ h => List.mem_cons_of_mem _ (List.mem_append_left _ (List.mem_append_right _ h))
  have in_X8 : ∀ w ∈ u_ws RX8 TX8 6, w ∈ wsX8_firstDue := fun _ h => List.mem_cons_of_mem _ (List.mem_append_left _ (List.mem_append_left _ (List.mem_append_right _ h)))
  have k_0 := hts (Cond.fieldLink RX8 19 "SparePool" "now" "LSparePool$State;") (List.mem_of_getElem? (i := 1) rfl)
  have k_1 := hts (Cond.initialized RX7) (List.mem_of_getElem? (i := 3) rfl)
  have k_2 := hts (Cond.instanceMethod yX7_dueFirst) (List.mem_of_getElem? (i := 2) rfl)
  have k_3 := hts (Cond.selects RX7 yX7_dueFirst yX7_dueFirst) (List.mem_of_getElem? (i := 4) rfl)
  have hP : va_P D vwCl (wSp cy xa sa sb tr na ka z) s.heap := hP
  refine lv_aload_n hx hb dX8_firstDue_0 rfl (lv_at hl 0 rfl) ?_
  refine va_get (D := D) (ci := 6) (v := .ref (na 0)) (C := RX8) (T := TX8) (N := 6) hx hb hts in_X8 hown hG.1 hP 0 g_Sp_0 rfl 1 (by decide) k_0 (fun _ h9 => h9) rfl dX8_firstDue_1 ?_
  refine va_getN (D := D) (ci := 3) (v := .ref (na 1)) (C := RX5) (T := TX5) (N := 9) hx hb hts in_X5 hown hG.1 hP 50 g_Sp_50 rfl 0 (by decide) (va_Nw.use rfl (nw_X8_109 hG.2)) (fun _ h9 => h9) rfl dX8_firstDue_4 ?_
  refine roVN (wc := (wUn cy (na 1) (na 2) (na 3) (na 4) (na 5) (na 6) (sU (pN z)))) (As := []) (rest := []) (c_X7_dueFirst l D cy (na 1) (na 2) (na 3) (na 4) (na 5) (na 6) (sU (pN z)) hN.1) hCF gX8_firstDue_X7_dueFirst_n261 (nw_X8_261 hG.2) k_1 k_2 k_3 rfl hd_X7_dueFirst ⟨rfl, rfl, Nat.le_of_ble_eq_true rfl, Nat.le_of_ble_eq_true rfl⟩ hG (hP.sub (ws' := (wUn cy (na 1) (na 2) (na 3) (na 4) (na 5) (na 6) (sU (pN z)))) [51, 52, 53, 54, 55, 56] u_Sp_Un51) (ci := 5) rfl rfl g_Un_0 rfl hl.1 rfl (Nat.le_of_ble_eq_true rfl) dX8_firstDue_7 ⟨Nat.le_of_ble_eq_true rfl, Nat.le_of_ble_eq_true rfl⟩ ?_
  exact mu_iret hx hb hr hlocks hP hS dX8_firstDue_10 (by rw [m_X8_firstDue]) (by rw [m_X8_firstDue])
