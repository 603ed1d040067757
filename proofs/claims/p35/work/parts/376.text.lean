def m_X6_digitsOf (x1 : Int32) : Int32 := if x1 = (117 : Int32) then (2 : Int32) else if x1 = (116 : Int32) then (2 : Int32) else (1 : Int32)
theorem hd_X6_digitsOf : yX6_digitsOf.cls = RX6 ∧ yX6_digitsOf.cls ≠ "java/lang/invoke/MethodHandle" ∧ yX6_digitsOf.cls ≠ "java/lang/invoke/VarHandle" ∧ (parseMethodDescriptor yX6_digitsOf.desc).map (fun d => d.parameters.length) = some 1 := by decide +kernel
set_option maxHeartbeats 8000000 in
set_option maxRecDepth 20000 in
theorem c_X6_digitsOf (l : Launch) (D : va_G) (cy : Nat → ClassId) (x1 : Int32) : RO l D cy yX6_digitsOf wsX6_digitsOf ({ frames := 0, cells := 0, slots := 0, locals := 0 } : Room) ([] : va_W) [.int x1] (m_X6_digitsOf x1) := by
  refine RO.body (by decide) rfl (Nat.le_of_ble_eq_true rfl) ?_
  intro p e s m below meth c hx hb hml hr hts hown hlocks hP hG ls hl
  have hl : lv_has ls 1 [(0, .int x1)] := hl
  have hCF : CallFix p m c cX6_digitsOf 1 s ([.int x1] : List Value).toArray wsX6_digitsOf RX6 := ⟨hx, hb, hml, hown, hts⟩
  refine lv_iload_n hx hb dX6_digitsOf_0 rfl (lv_at hl 0 rfl) ?_
  refine lv_bipush (v := (117 : Int32)) hx hb dX6_digitsOf_1 (by decide) ?_
  refine lv_icmp_eq (tgt := 12) hx hb dX6_digitsOf_3 (by decide) (fun c_1 => ?_) (fun c_1 => ?_)
  · skip
    refine lv_iconst (v := (2 : Int32)) hx hb dX6_digitsOf_12 (by decide) ?_
    refine lv_goto (tgt := 17) hx hb dX6_digitsOf_13 (by decide) ?_
    exact ro_iret hx hb hr hlocks dX6_digitsOf_17 (by rw [m_X6_digitsOf, if_pos c_1])
  · skip
    refine lv_iload_n hx hb dX6_digitsOf_6 rfl (lv_at hl 0 rfl) ?_
    refine lv_bipush (v := (116 : Int32)) hx hb dX6_digitsOf_7 (by decide) ?_
    refine lv_icmp_ne (tgt := 16) hx hb dX6_digitsOf_9 (by decide) (fun c_2 => ?_) (fun c_2 => ?_)
    · skip
      refine lv_iconst (v := (1 : Int32)) hx hb dX6_digitsOf_16 (by decide) ?_
      exact ro_iret hx hb hr hlocks dX6_digitsOf_17 (by rw [m_X6_digitsOf, if_neg c_1, if_neg c_2])
    · skip
      refine lv_iconst (v := (2 : Int32)) hx hb dX6_digitsOf_12 (by decide) ?_
      refine lv_goto (tgt := 17) hx hb dX6_digitsOf_13 (by decide) ?_
      exact ro_iret hx hb hr hlocks dX6_digitsOf_17 (by rw [m_X6_digitsOf, if_neg c_1, if_pos c_2])
theorem dg_le (x : Int32) : (m_X6_digitsOf x).toInt ≤ 2 := by
  unfold m_X6_digitsOf
  repeat' split
  all_goals decide
def m_X6_lowestOf (x1 : Int32) : Int32 := if x1 = (116 : Int32) then (1 : Int32) else if x1 = (110 : Int32) then (1 : Int32) else (0 : Int32)
theorem hd_X6_lowestOf : yX6_lowestOf.cls = RX6 ∧ yX6_lowestOf.cls ≠ "java/lang/invoke/MethodHandle" ∧ yX6_lowestOf.cls ≠ "java/lang/invoke/VarHandle" ∧ (parseMethodDescriptor yX6_lowestOf.desc).map (fun d => d.parameters.length) = some 1 := by decide +kernel
set_option maxHeartbeats 8000000 in
set_option maxRecDepth 20000 in
theorem c_X6_lowestOf (l : Launch) (D : va_G) (cy : Nat → ClassId) (x1 : Int32) : RO l D cy yX6_lowestOf wsX6_lowestOf ({ frames := 0, cells := 0, slots := 0, locals := 0 } : Room) ([] : va_W) [.int x1] (m_X6_lowestOf x1) := by
  refine RO.body (by decide) rfl (Nat.le_of_ble_eq_true rfl) ?_
  intro p e s m below meth c hx hb hml hr hts hown hlocks hP hG ls hl
  have hl : lv_has ls 1 [(0, .int x1)] := hl
  have hCF : CallFix p m c cX6_lowestOf 1 s ([.int x1] : List Value).toArray wsX6_lowestOf RX6 := ⟨hx, hb, hml, hown, hts⟩
  refine lv_iload_n hx hb dX6_lowestOf_0 rfl (lv_at hl 0 rfl) ?_
  refine lv_bipush (v := (116 : Int32)) hx hb dX6_lowestOf_1 (by decide) ?_
  refine lv_icmp_eq (tgt := 12) hx hb dX6_lowestOf_3 (by decide) (fun c_1 => ?_) (fun c_1 => ?_)
  · skip
    refine lv_iconst (v := (1 : Int32)) hx hb dX6_lowestOf_12 (by decide) ?_
    refine lv_goto (tgt := 17) hx hb dX6_lowestOf_13 (by decide) ?_
    exact ro_iret hx hb hr hlocks dX6_lowestOf_17 (by rw [m_X6_lowestOf, if_pos c_1])
  · skip
    refine lv_iload_n hx hb dX6_lowestOf_6 rfl (lv_at hl 0 rfl) ?_
    refine lv_bipush (v := (110 : Int32)) hx hb dX6_lowestOf_7 (by decide) ?_
    refine lv_icmp_ne (tgt := 16) hx hb dX6_lowestOf_9 (by decide) (fun c_2 => ?_) (fun c_2 => ?_)
    · skip
      refine lv_iconst (v := (0 : Int32)) hx hb dX6_lowestOf_16 (by decide) ?_
      exact ro_iret hx hb hr hlocks dX6_lowestOf_17 (by rw [m_X6_lowestOf, if_neg c_1, if_neg c_2])
    · skip
      refine lv_iconst (v := (1 : Int32)) hx hb dX6_lowestOf_12 (by decide) ?_
      refine lv_goto (tgt := 17) hx hb dX6_lowestOf_13 (by decide) ?_
      exact ro_iret hx hb hr hlocks dX6_lowestOf_17 (by rw [m_X6_lowestOf, if_neg c_1, if_pos c_2])
def m_X6_highestOf (x1 : Int32) : Int32 := if x1 = (98 : Int32) then (7 : Int32) else if x1 = (99 : Int32) then (9 : Int32) else if x1 = (100 : Int32) then (9 : Int32) else if x1 = (101 : Int32) then (9 : Int32) else if x1 = (102 : Int32) then (9 : Int32) else if x1 = (103 : Int32) then (9 : Int32) else if x1 = (104 : Int32) then (4 : Int32) else if x1 = (105 : Int32) then (9 : Int32) else if x1 = (106 : Int32) then (9 : Int32) else if x1 = (107 : Int32) then (2 : Int32) else if x1 = (108 : Int32) then (9 : Int32) else if x1 = (109 : Int32) then (9 : Int32) else if x1 = (110 : Int32) then (9 : Int32) else if x1 = (111 : Int32) then (9 : Int32) else if x1 = (112 : Int32) then (2 : Int32) else if x1 = (113 : Int32) then (9 : Int32) else if x1 = (114 : Int32) then (9 : Int32) else if x1 = (115 : Int32) then (9 : Int32) else if x1 = (116 : Int32) then (30 : Int32) else if x1 = (117 : Int32) then (15 : Int32) else (9 : Int32)
theorem hd_X6_highestOf : yX6_highestOf.cls = RX6 ∧ yX6_highestOf.cls ≠ "java/lang/invoke/MethodHandle" ∧ yX6_highestOf.cls ≠ "java/lang/invoke/VarHandle" ∧ (parseMethodDescriptor yX6_highestOf.desc).map (fun d => d.parameters.length) = some 1 := by decide +kernel
set_option maxHeartbeats 8000000 in
set_option maxRecDepth 20000 in
theorem c_X6_highestOf (l : Launch) (D : va_G) (cy : Nat → ClassId) (x1 : Int32) : RO l D cy yX6_highestOf wsX6_highestOf ({ frames := 0, cells := 0, slots := 0, locals := 0 } : Room) ([] : va_W) [.int x1] (m_X6_highestOf x1) := by
  refine RO.body (by decide) rfl (Nat.le_of_ble_eq_true rfl) ?_
  intro p e s m below meth c hx hb hml hr hts hown hlocks hP hG ls hl
  have hl : lv_has ls 1 [(0, .int x1)] := hl
  have hCF : CallFix p m c cX6_highestOf 1 s ([.int x1] : List Value).toArray wsX6_highestOf RX6 := ⟨hx, hb, hml, hown, hts⟩
  refine lv_iload_n hx hb dX6_highestOf_0 rfl (lv_at hl 0 rfl) ?_
  by_cases c_1 : x1 = (98 : Int32)
  · refine lv_tableIn (tgt := 100) hx hb dX6_highestOf_1 (by rw [c_1]; decide) (by rw [c_1]; decide) (by rw [c_1]; rfl) (by decide) ?_
    refine lv_bipush (v := (7 : Int32)) hx hb dX6_highestOf_100 (by decide) ?_
    exact ro_iret hx hb hr hlocks dX6_highestOf_102 (by rw [m_X6_highestOf, if_pos c_1])
  by_cases c_2 : x1 = (99 : Int32)
  · refine lv_tableIn (tgt := 111) hx hb dX6_highestOf_1 (by rw [c_2]; decide) (by rw [c_2]; decide) (by rw [c_2]; rfl) (by decide) ?_
    refine lv_bipush (v := (9 : Int32)) hx hb dX6_highestOf_111 (by decide) ?_
    exact ro_iret hx hb hr hlocks dX6_highestOf_113 (by rw [m_X6_highestOf, if_neg c_1, if_pos c_2])
  by_cases c_3 : x1 = (100 : Int32)
  · refine lv_tableIn (tgt := 111) hx hb dX6_highestOf_1 (by rw [c_3]; decide) (by rw [c_3]; decide) (by rw [c_3]; rfl) (by decide) ?_
    refine lv_bipush (v := (9 : Int32)) hx hb dX6_highestOf_111 (by decide) ?_
    exact ro_iret hx hb hr hlocks dX6_highestOf_113 (by rw [m_X6_highestOf, if_neg c_1, if_neg c_2, if_pos c_3])
  by_cases c_4 : x1 = (101 : Int32)
  · refine lv_tableIn (tgt := 111) hx hb dX6_highestOf_1 (by rw [c_4]; decide) (by rw [c_4]; decide) (by rw [c_4]; rfl) (by decide) ?_
    refine lv_bipush (v := (9 : Int32)) hx hb dX6_highestOf_111 (by decide) ?_
    exact ro_iret hx hb hr hlocks dX6_highestOf_113 (by rw [m_X6_highestOf, if_neg c_1, if_neg c_2, if_neg c_3, if_pos c_4])
  by_cases c_5 : x1 = (102 : Int32)
  · refine lv_tableIn (tgt := 111) hx hb dX6_highestOf_1 (by rw [c_5]; decide) (by rw [c_5]; decide) (by rw [c_5]; rfl) (by decide) ?_
    refine lv_bipush (v := (9 : Int32)) hx hb dX6_highestOf_111 (by decide) ?_
    exact ro_iret hx hb hr hlocks dX6_highestOf_113 (by rw [m_X6_highestOf, if_neg c_1, if_neg c_2, if_neg c_3, if_neg c_4, if_pos c_5])
  by_cases c_6 : x1 = (103 : Int32)
  · refine lv_tableIn (tgt := 111) hx hb dX6_highestOf_1 (by rw [c_6]; decide) (by rw [c_6]; decide) (by rw [c_6]; rfl) (by decide) ?_
    refine lv_bipush (v := (9 : Int32)) hx hb dX6_highestOf_111 (by decide) ?_
    exact ro_iret hx hb hr hlocks dX6_highestOf_113 (by rw [m_X6_highestOf, if_neg c_1, if_neg c_2, if_neg c_3, if_neg c_4, if_neg c_5, if_pos c_6])
  by_cases c_7 : x1 = (104 : Int32)
  · refine lv_tableIn (tgt := 98) hx hb dX6_highestOf_1 (by rw [c_7]; decide) (by rw [c_7]; decide) (by rw [c_7]; rfl) (by decide) ?_
    refine lv_iconst (v := (4 : Int32)) hx hb dX6_highestOf_98 (by decide) ?_
    exact ro_iret hx hb hr hlocks dX6_highestOf_99 (by rw [m_X6_highestOf, if_neg c_1, if_neg c_2, if_neg c_3, if_neg c_4, if_neg c_5, if_neg c_6, if_pos c_7])
  by_cases c_8 : x1 = (105 : Int32)
  · refine lv_tableIn (tgt := 111) hx hb dX6_highestOf_1 (by rw [c_8]; decide) (by rw [c_8]; decide) (by rw [c_8]; rfl) (by decide) ?_
    refine lv_bipush (v := (9 : Int32)) hx hb dX6_highestOf_111 (by decide) ?_
    exact ro_iret hx hb hr hlocks dX6_highestOf_113 (by rw [m_X6_highestOf, if_neg c_1, if_neg c_2, if_neg c_3, if_neg c_4, if_neg c_5, if_neg c_6, if_neg c_7, if_pos c_8])
  by_cases c_9 : x1 = (106 : Int32)
  · refine lv_tableIn (tgt := 111) hx hb dX6_highestOf_1 (by rw [c_9]; decide) (by rw [c_9]; decide) (by rw [c_9]; rfl) (by decide) ?_
    refine lv_bipush (v := (9 : Int32)) hx hb dX6_highestOf_111 (by decide) ?_
    exact ro_iret hx hb hr hlocks dX6_highestOf_113 (by rw [m_X6_highestOf, if_neg c_1, if_neg c_2, if_neg c_3, if_neg c_4, if_neg c_5, if_neg c_6, if_neg c_7, if_neg c_8, if_pos c_9])
  by_cases c_10 : x1 = (107 : Int32)
  · refine lv_tableIn (tgt := 96) hx hb dX6_highestOf_1 (by rw [c_10]; decide) (by rw [c_10]; decide) (by rw [c_10]; rfl) (by decide) ?_
    refine lv_iconst (v := (2 : Int32)) hx hb dX6_highestOf_96 (by decide) ?_
    exact ro_iret hx hb hr hlocks dX6_highestOf_97 (by rw [m_X6_highestOf, if_neg c_1, if_neg c_2, if_neg c_3, if_neg c_4, if_neg c_5, if_neg c_6, if_neg c_7, if_neg c_8, if_neg c_9, if_pos c_10])
  by_cases c_11 : x1 = (108 : Int32)
  · refine lv_tableIn (tgt := 111) hx hb dX6_highestOf_1 (by rw [c_11]; decide) (by rw [c_11]; decide) (by rw [c_11]; rfl) (by decide) ?_
    refine lv_bipush (v := (9 : Int32)) hx hb dX6_highestOf_111 (by decide) ?_
    exact ro_iret hx hb hr hlocks dX6_highestOf_113 (by rw [m_X6_highestOf, if_neg c_1, if_neg c_2, if_neg c_3, if_neg c_4, if_neg c_5, if_neg c_6, if_neg c_7, if_neg c_8, if_neg c_9, if_neg c_10, if_pos c_11])
  by_cases c_12 : x1 = (109 : Int32)
  · refine lv_tableIn (tgt := 111) hx hb dX6_highestOf_1 (by rw [c_12]; decide) (by rw [c_12]; decide) (by rw [c_12]; rfl) (by decide) ?_
    refine lv_bipush (v := (9 : Int32)) hx hb dX6_highestOf_111 (by decide) ?_
    exact ro_iret hx hb hr hlocks dX6_highestOf_113 (by rw [m_X6_highestOf, if_neg c_1, if_neg c_2, if_neg c_3, if_neg c_4, if_neg c_5, if_neg c_6, if_neg c_7, if_neg c_8, if_neg c_9, if_neg c_10, if_neg c_11, if_pos c_12])
  by_cases c_13 : x1 = (110 : Int32)
  · refine lv_tableIn (tgt := 111) hx hb dX6_highestOf_1 (by rw [c_13]; decide) (by rw [c_13]; decide) (by rw [c_13]; rfl) (by decide) ?_
    refine lv_bipush (v := (9 : Int32)) hx hb dX6_highestOf_111 (by decide) ?_
    exact ro_iret hx hb hr hlocks dX6_highestOf_113 (by rw [m_X6_highestOf, if_neg c_1, if_neg c_2, if_neg c_3, if_neg c_4, if_neg c_5, if_neg c_6, if_neg c_7, if_neg c_8, if_neg c_9, if_neg c_10, if_neg c_11, if_neg c_12, if_pos c_13])
  by_cases c_14 : x1 = (111 : Int32)
  · refine lv_tableIn (tgt := 111) hx hb dX6_highestOf_1 (by rw [c_14]; decide) (by rw [c_14]; decide) (by rw [c_14]; rfl) (by decide) ?_
    refine lv_bipush (v := (9 : Int32)) hx hb dX6_highestOf_111 (by decide) ?_
    exact ro_iret hx hb hr hlocks dX6_highestOf_113 (by rw [m_X6_highestOf, if_neg c_1, if_neg c_2, if_neg c_3, if_neg c_4, if_neg c_5, if_neg c_6, if_neg c_7, if_neg c_8, if_neg c_9, if_neg c_10, if_neg c_11, if_neg c_12, if_neg c_13, if_pos c_14])
  by_cases c_15 : x1 = (112 : Int32)
  · refine lv_tableIn (tgt := 109) hx hb dX6_highestOf_1 (by rw [c_15]; decide) (by rw [c_15]; decide) (by rw [c_15]; rfl) (by decide) ?_
    refine lv_iconst (v := (2 : Int32)) hx hb dX6_highestOf_109 (by decide) ?_
    exact ro_iret hx hb hr hlocks dX6_highestOf_110 (by rw [m_X6_highestOf, if_neg c_1, if_neg c_2, if_neg c_3, if_neg c_4, if_neg c_5, if_neg c_6, if_neg c_7, if_neg c_8, if_neg c_9, if_neg c_10, if_neg c_11, if_neg c_12, if_neg c_13, if_neg c_14, if_pos c_15])
  by_cases c_16 : x1 = (113 : Int32)
  · refine lv_tableIn (tgt := 111) hx hb dX6_highestOf_1 (by rw [c_16]; decide) (by rw [c_16]; decide) (by rw [c_16]; rfl) (by decide) ?_
    refine lv_bipush (v := (9 : Int32)) hx hb dX6_highestOf_111 (by decide) ?_
    exact ro_iret hx hb hr hlocks dX6_highestOf_113 (by rw [m_X6_highestOf, if_neg c_1, if_neg c_2, if_neg c_3, if_neg c_4, if_neg c_5, if_neg c_6, if_neg c_7, if_neg c_8, if_neg c_9, if_neg c_10, if_neg c_11, if_neg c_12, if_neg c_13, if_neg c_14, if_neg c_15, if_pos c_16])
  by_cases c_17 : x1 = (114 : Int32)
  · refine lv_tableIn (tgt := 111) hx hb dX6_highestOf_1 (by rw [c_17]; decide) (by rw [c_17]; decide) (by rw [c_17]; rfl) (by decide) ?_
    refine lv_bipush (v := (9 : Int32)) hx hb dX6_highestOf_111 (by decide) ?_
    exact ro_iret hx hb hr hlocks dX6_highestOf_113 (by rw [m_X6_highestOf, if_neg c_1, if_neg c_2, if_neg c_3, if_neg c_4, if_neg c_5, if_neg c_6, if_neg c_7, if_neg c_8, if_neg c_9, if_neg c_10, if_neg c_11, if_neg c_12, if_neg c_13, if_neg c_14, if_neg c_15, if_neg c_16, if_pos c_17])
  by_cases c_18 : x1 = (115 : Int32)
  · refine lv_tableIn (tgt := 111) hx hb dX6_highestOf_1 (by rw [c_18]; decide) (by rw [c_18]; decide) (by rw [c_18]; rfl) (by decide) ?_
    refine lv_bipush (v := (9 : Int32)) hx hb dX6_highestOf_111 (by decide) ?_
    exact ro_iret hx hb hr hlocks dX6_highestOf_113 (by rw [m_X6_highestOf, if_neg c_1, if_neg c_2, if_neg c_3, if_neg c_4, if_neg c_5, if_neg c_6, if_neg c_7, if_neg c_8, if_neg c_9, if_neg c_10, if_neg c_11, if_neg c_12, if_neg c_13, if_neg c_14, if_neg c_15, if_neg c_16, if_neg c_17, if_pos c_18])
  by_cases c_19 : x1 = (116 : Int32)
  · refine lv_tableIn (tgt := 106) hx hb dX6_highestOf_1 (by rw [c_19]; decide) (by rw [c_19]; decide) (by rw [c_19]; rfl) (by decide) ?_
    refine lv_bipush (v := (30 : Int32)) hx hb dX6_highestOf_106 (by decide) ?_
    exact ro_iret hx hb hr hlocks dX6_highestOf_108 (by rw [m_X6_highestOf, if_neg c_1, if_neg c_2, if_neg c_3, if_neg c_4, if_neg c_5, if_neg c_6, if_neg c_7, if_neg c_8, if_neg c_9, if_neg c_10, if_neg c_11, if_neg c_12, if_neg c_13, if_neg c_14, if_neg c_15, if_neg c_16, if_neg c_17, if_neg c_18, if_pos c_19])
  by_cases c_20 : x1 = (117 : Int32)
  · refine lv_tableIn (tgt := 103) hx hb dX6_highestOf_1 (by rw [c_20]; decide) (by rw [c_20]; decide) (by rw [c_20]; rfl) (by decide) ?_
    refine lv_bipush (v := (15 : Int32)) hx hb dX6_highestOf_103 (by decide) ?_
    exact ro_iret hx hb hr hlocks dX6_highestOf_105 (by rw [m_X6_highestOf, if_neg c_1, if_neg c_2, if_neg c_3, if_neg c_4, if_neg c_5, if_neg c_6, if_neg c_7, if_neg c_8, if_neg c_9, if_neg c_10, if_neg c_11, if_neg c_12, if_neg c_13, if_neg c_14, if_neg c_15, if_neg c_16, if_neg c_17, if_neg c_18, if_neg c_19, if_pos c_20])
  · refine lv_tableOut (tgt := 111) hx hb dX6_highestOf_1 (by have q_1 := lv_neT (a := 98) c_1 rfl; have q_2 := lv_neT (a := 99) c_2 rfl; have q_3 := lv_neT (a := 100) c_3 rfl; have q_4 := lv_neT (a := 101) c_4 rfl; have q_5 := lv_neT (a := 102) c_5 rfl; have q_6 := lv_neT (a := 103) c_6 rfl; have q_7 := lv_neT (a := 104) c_7 rfl; have q_8 := lv_neT (a := 105) c_8 rfl; have q_9 := lv_neT (a := 106) c_9 rfl; have q_10 := lv_neT (a := 107) c_10 rfl; have q_11 := lv_neT (a := 108) c_11 rfl; have q_12 := lv_neT (a := 109) c_12 rfl; have q_13 := lv_neT (a := 110) c_13 rfl; have q_14 := lv_neT (a := 111) c_14 rfl; have q_15 := lv_neT (a := 112) c_15 rfl; have q_16 := lv_neT (a := 113) c_16 rfl; have q_17 := lv_neT (a := 114) c_17 rfl; have q_18 := lv_neT (a := 115) c_18 rfl; have q_19 := lv_neT (a := 116) c_19 rfl; have q_20 := lv_neT (a := 117) c_20 rfl; omega) (by decide) ?_
    refine lv_bipush (v := (9 : Int32)) hx hb dX6_highestOf_111 (by decide) ?_
    exact ro_iret hx hb hr hlocks dX6_highestOf_113 (by rw [m_X6_highestOf, if_neg c_1, if_neg c_2, if_neg c_3, if_neg c_4, if_neg c_5, if_neg c_6, if_neg c_7, if_neg c_8, if_neg c_9, if_neg c_10, if_neg c_11, if_neg c_12, if_neg c_13, if_neg c_14, if_neg c_15, if_neg c_16, if_neg c_17, if_neg c_18, if_neg c_19, if_neg c_20])
def m_X6_fieldsOf (x1 : Int32) : Nat := if x1 = (100 : Int32) then 5 else if x1 = (108 : Int32) then 1 else if x1 = (110 : Int32) then 0 else if x1 = (114 : Int32) then 2 else if x1 = (116 : Int32) then 4 else if x1 = (120 : Int32) then 3 else 6
theorem hd_X6_fieldsOf : yX6_fieldsOf.cls = RX6 ∧ yX6_fieldsOf.cls ≠ "java/lang/invoke/MethodHandle" ∧ yX6_fieldsOf.cls ≠ "java/lang/invoke/VarHandle" ∧ (parseMethodDescriptor yX6_fieldsOf.desc).map (fun d => d.parameters.length) = some 1 := by decide +kernel
set_option maxHeartbeats 8000000 in
set_option maxRecDepth 20000 in
theorem c_X6_fieldsOf (l : Launch) (D : va_G) (cy : Nat → ClassId) (t : FxA) (A : Nat → Prop) (x1 : Int32) : ROr l D cy t A yX6_fieldsOf wsX6_fieldsOf ({ frames := 0, cells := 0, slots := 0, locals := 0 } : Room) [.int x1] (.ref (t.2.2.1 (m_X6_fieldsOf x1))) := by
  refine ROr.body (by decide) rfl (Nat.le_of_ble_eq_true rfl) ?_
  intro p e s m below meth c hx hb hml hr hts hown hlocks hG hF ls hl
  have hl : lv_has ls 1 [(0, .int x1)] := hl
  have hCF : CallFix p m c cX6_fieldsOf 1 s ([.int x1] : List Value).toArray wsX6_fieldsOf RX6 := ⟨hx, hb, hml, hown, hts⟩
  refine lv_iload_n hx hb dX6_fieldsOf_0 rfl (lv_at hl 0 rfl) ?_
  by_cases c_1 : x1 = (100 : Int32)
  · refine lv_lookup (tgt := 75) hx hb dX6_fieldsOf_1 (by decide) (by rw [c_1]; first | done | rfl) (by decide) ?_
    refine va_ldcS hx hb hown hF.2.2.1.2.2.2.2.2.2.1 dX6_fieldsOf_75 ?_
    exact ro_aret hx hb hr hlocks dX6_fieldsOf_77 (by rw [m_X6_fieldsOf, if_pos c_1])
  by_cases c_2 : x1 = (108 : Int32)
  · refine lv_lookup (tgt := 63) hx hb dX6_fieldsOf_1 (by decide) (by rw [c_2]; first | done | rfl) (by decide) ?_
    refine va_ldcS hx hb hown hF.2.2.1.2.2.1 dX6_fieldsOf_63 ?_
    exact ro_aret hx hb hr hlocks dX6_fieldsOf_65 (by rw [m_X6_fieldsOf, if_neg c_1, if_pos c_2])
  by_cases c_3 : x1 = (110 : Int32)
  · refine lv_lookup (tgt := 60) hx hb dX6_fieldsOf_1 (by decide) (by rw [c_3]; first | done | rfl) (by decide) ?_
    refine va_ldcS hx hb hown hF.2.2.1.2.1 dX6_fieldsOf_60 ?_
    exact ro_aret hx hb hr hlocks dX6_fieldsOf_62 (by rw [m_X6_fieldsOf, if_neg c_1, if_neg c_2, if_pos c_3])
  by_cases c_4 : x1 = (114 : Int32)
  · refine lv_lookup (tgt := 66) hx hb dX6_fieldsOf_1 (by decide) (by rw [c_4]; first | done | rfl) (by decide) ?_
    refine va_ldcS hx hb hown hF.2.2.1.2.2.2.1 dX6_fieldsOf_66 ?_
    exact ro_aret hx hb hr hlocks dX6_fieldsOf_68 (by rw [m_X6_fieldsOf, if_neg c_1, if_neg c_2, if_neg c_3, if_pos c_4])
  by_cases c_5 : x1 = (116 : Int32)
  · refine lv_lookup (tgt := 72) hx hb dX6_fieldsOf_1 (by decide) (by rw [c_5]; first | done | rfl) (by decide) ?_
    refine va_ldcS hx hb hown hF.2.2.1.2.2.2.2.2.1 dX6_fieldsOf_72 ?_
    exact ro_aret hx hb hr hlocks dX6_fieldsOf_74 (by rw [m_X6_fieldsOf, if_neg c_1, if_neg c_2, if_neg c_3, if_neg c_4, if_pos c_5])
  by_cases c_6 : x1 = (120 : Int32)
  · refine lv_lookup (tgt := 69) hx hb dX6_fieldsOf_1 (by decide) (by rw [c_6]; first | done | rfl) (by decide) ?_
    refine va_ldcS hx hb hown hF.2.2.1.2.2.2.2.1 dX6_fieldsOf_69 ?_
    exact ro_aret hx hb hr hlocks dX6_fieldsOf_71 (by rw [m_X6_fieldsOf, if_neg c_1, if_neg c_2, if_neg c_3, if_neg c_4, if_neg c_5, if_pos c_6])
  · refine lv_lookup (tgt := 78) hx hb dX6_fieldsOf_1 (by decide) ((lv_osw (k := 100) c_1 rfl).trans ((lv_osw (k := 108) c_2 rfl).trans ((lv_osw (k := 110) c_3 rfl).trans ((lv_osw (k := 114) c_4 rfl).trans ((lv_osw (k := 116) c_5 rfl).trans ((lv_osw (k := 120) c_6 rfl).trans (rfl))))))) (by first | rfl | decide) ?_
    refine va_ldcS hx hb hown hF.2.2.1.2.2.2.2.2.2.2 dX6_fieldsOf_78 ?_
    exact ro_aret hx hb hr hlocks dX6_fieldsOf_80 (by rw [m_X6_fieldsOf, if_neg c_1, if_neg c_2, if_neg c_3, if_neg c_4, if_neg c_5, if_neg c_6])
theorem fi_lt (x : Int32) : m_X6_fieldsOf x < 7 := by
  unfold m_X6_fieldsOf
  repeat' split
  all_goals decide
def m_X6_put (tx : TxT) (x1 : Int32) (x2 : Int32) : TxT := if x1 = (0 : Int32) then tF' tx x2 else if x1 = (1 : Int32) then tG' tx x2 else tH' tx x2
theorem hd_X6_put : yX6_put.cls = RX6 ∧ yX6_put.cls ≠ "java/lang/invoke/MethodHandle" ∧ yX6_put.cls ≠ "java/lang/invoke/VarHandle" ∧ (parseMethodDescriptor yX6_put.desc).map (fun d => d.parameters.length) = some 2 := by decide +kernel
set_option maxHeartbeats 8000000 in
set_option maxRecDepth 20000 in
theorem c_X6_put (l : Launch) (D : va_G) (cy : Nat → ClassId) (a0 a1 : Nat) (tx : TxT) (x1 : Int32) (x2 : Int32) : MV l D cy yX6_put wsX6_put ({ frames := 0, cells := 0, slots := 0, locals := 0 } : Room) (wTx cy a0 a1 tx) (wTx cy a0 a1 (m_X6_put tx x1 x2)) [.ref a0, .int x1, .int x2] := by
  refine MV.body (by decide) rfl (Nat.le_of_ble_eq_true rfl) ?_
  intro p e s m below meth c hx hb hml hr hts hown hlocks hP hG ls hl A hD hA hS
  have hl : lv_has ls 3 [(0, .ref a0), (1, .int x1), (2, .int x2)] := hl
  have hCF : CallFix p m c cX6_put 3 s ([.ref a0, .int x1, .int x2] : List Value).toArray wsX6_put RX6 := ⟨hx, hb, hml, hown, hts⟩
  have in_X6 : ∀ w ∈ u_ws RX6 TX6 7, w ∈ wsX6_put := fun _ h => List.mem_cons_of_mem _ (List.mem_append_right _ h)
  have k_0 := hts (Cond.fieldLink RX6 63 "SparePool$Text" "third" "I") (List.mem_of_getElem? (i := 3) rfl)
  have k_1 := hts (Cond.fieldLink RX6 60 "SparePool$Text" "second" "I") (List.mem_of_getElem? (i := 2) rfl)
  have k_2 := hts (Cond.fieldLink RX6 57 "SparePool$Text" "first" "I") (List.mem_of_getElem? (i := 1) rfl)
  have hP : va_P D vwCl (wTx cy a0 a1 tx) s.heap := hP
  refine lv_iload_n hx hb dX6_put_0 rfl (lv_at hl 1 rfl) ?_
  refine lv_if_ne (tgt := 12) hx hb dX6_put_1 (by decide) (fun c_1 => ?_) (fun c_1 => ?_)
  · skip
    refine lv_iload_n hx hb dX6_put_12 rfl (lv_at hl 1 rfl) ?_
    refine lv_iconst (v := (1 : Int32)) hx hb dX6_put_13 (by decide) ?_
    refine lv_icmp_ne (tgt := 25) hx hb dX6_put_14 (by decide) (fun c_2 => ?_) (fun c_2 => ?_)
    · skip
      refine lv_aload_n hx hb dX6_put_25 rfl (lv_at hl 0 rfl) ?_
      refine lv_iload_n hx hb dX6_put_26 rfl (lv_at hl 2 rfl) ?_
      refine va_put (D := D) (ci := 4) (v := .int x2) (ty := .int) (C := RX6) (T := TX6) (N := 7) hx hb hts in_X6 tyX6 tyX6_ok nmX6 hown hG.1 hP hD hS 0 g_Tx_0 rfl 5 (by decide) k_0 (fun _ h9 => h9) rfl (by decide +kernel) rfl rfl (Nat.le_of_ble_eq_true rfl) dX6_put_27 (fun H locs hP hD hS => ?_)
      have hP : va_P D vwCl (wTx cy a0 a1 (tH' tx x2)) H := va_P_eq hP s_Tx_0_5
      have hD : va_D A (wTx cy a0 a1 (tH' tx x2)) := va_D_eq hD s_Tx_0_5
      exact mu_vret hx hb hr hlocks hP hS dX6_put_30 (by rw [m_X6_put, if_neg c_1, if_neg c_2])
    · skip
      refine lv_aload_n hx hb dX6_put_17 rfl (lv_at hl 0 rfl) ?_
      refine lv_iload_n hx hb dX6_put_18 rfl (lv_at hl 2 rfl) ?_
      refine va_put (D := D) (ci := 4) (v := .int x2) (ty := .int) (C := RX6) (T := TX6) (N := 7) hx hb hts in_X6 tyX6 tyX6_ok nmX6 hown hG.1 hP hD hS 0 g_Tx_0 rfl 4 (by decide) k_1 (fun _ h9 => h9) rfl (by decide +kernel) rfl rfl (Nat.le_of_ble_eq_true rfl) dX6_put_19 (fun H locs hP hD hS => ?_)
      have hP : va_P D vwCl (wTx cy a0 a1 (tG' tx x2)) H := va_P_eq hP s_Tx_0_4
      have hD : va_D A (wTx cy a0 a1 (tG' tx x2)) := va_D_eq hD s_Tx_0_4
      refine lv_goto (tgt := 30) hx hb dX6_put_22 (by decide) ?_
      exact mu_vret hx hb hr hlocks hP hS dX6_put_30 (by rw [m_X6_put, if_neg c_1, if_pos c_2])
  · skip
    refine lv_aload_n hx hb dX6_put_4 rfl (lv_at hl 0 rfl) ?_
    refine lv_iload_n hx hb dX6_put_5 rfl (lv_at hl 2 rfl) ?_
    refine va_put (D := D) (ci := 4) (v := .int x2) (ty := .int) (C := RX6) (T := TX6) (N := 7) hx hb hts in_X6 tyX6 tyX6_ok nmX6 hown hG.1 hP hD hS 0 g_Tx_0 rfl 3 (by decide) k_2 (fun _ h9 => h9) rfl (by decide +kernel) rfl rfl (Nat.le_of_ble_eq_true rfl) dX6_put_6 (fun H locs hP hD hS => ?_)
    have hP : va_P D vwCl (wTx cy a0 a1 (tF' tx x2)) H := va_P_eq hP s_Tx_0_3
    have hD : va_D A (wTx cy a0 a1 (tF' tx x2)) := va_D_eq hD s_Tx_0_3
    refine lv_goto (tgt := 30) hx hb dX6_put_9 (by decide) ?_
    exact mu_vret hx hb hr hlocks hP hS dX6_put_30 (by rw [m_X6_put, if_pos c_1])
theorem pt_L (tx : TxT) (x1 x2 : Int32) : tL (m_X6_put tx x1 x2) = tL tx := by
  unfold m_X6_put
  repeat' split
  all_goals rfl
theorem pt_T {tx : TxT} {x1 x2 : Int32} (h : iv 0 120 (tL tx)) : iv 0 120 (tL (m_X6_put tx x1 x2)) := by
  rw [pt_L]
  exact h
theorem nn_lt {x : Int32} (h : 0 ≤ x.toInt) : ¬ x < 0 := by
  rw [i32_lt, i32_0]
  omega
theorem ngt_lt {x B : Int32} (h : ¬ B ≤ x) : x < B := by
  rw [i32_le] at h
  rw [i32_lt]
  omega
def m_X6_add (tx : TxT) (x1 : Int32) : Int32 × TxT := if (120 : Int32) ≤ (tL tx) then (tL tx, tx) else ((tL tx) + (1 : Int32), tL' (tS' tx (upd (tS tx) (tL tx).toNatClampNeg x1)) ((tL tx) + (1 : Int32)))
theorem hd_X6_add : yX6_add.cls = RX6 ∧ yX6_add.cls ≠ "java/lang/invoke/MethodHandle" ∧ yX6_add.cls ≠ "java/lang/invoke/VarHandle" ∧ (parseMethodDescriptor yX6_add.desc).map (fun d => d.parameters.length) = some 1 := by decide +kernel
set_option maxHeartbeats 8000000 in
set_option maxRecDepth 20000 in
theorem c_X6_add (l : Launch) (D : va_G) (cy : Nat → ClassId) (a0 a1 : Nat) (tx : TxT) (x1 : Int32) (hT : iv 0 120 (tL tx)) : MU l D cy yX6_add wsX6_add ({ frames := 0, cells := 0, slots := 0, locals := 0 } : Room) (wTx cy a0 a1 tx) (wTx cy a0 a1 (m_X6_add tx x1).2) [.ref a0, .int x1] (m_X6_add tx x1).1 := by
  refine MU.body (by decide) rfl (Nat.le_of_ble_eq_true rfl) ?_
  intro p e s m below meth c hx hb hml hr hts hown hlocks hP hG ls hl A hD hA hS
  have hl : lv_has ls 2 [(0, .ref a0), (1, .int x1)] := hl
  have hCF : CallFix p m c cX6_add 2 s ([.ref a0, .int x1] : List Value).toArray wsX6_add RX6 := ⟨hx, hb, hml, hown, hts⟩
  have in_X6 : ∀ w ∈ u_ws RX6 TX6 7, w ∈ wsX6_add := fun _ h => List.mem_cons_of_mem _ (List.mem_append_right _ h)
  have k_0 := hts (Cond.fieldLink RX6 15 "SparePool$Text" "length" "I") (List.mem_of_getElem? (i := 1) rfl)
  have k_1 := hts (Cond.fieldLink RX6 9 "SparePool$Text" "signs" "[I") (List.mem_of_getElem? (i := 2) rfl)
  have hP : va_P D vwCl (wTx cy a0 a1 tx) s.heap := hP
  refine lv_aload_n hx hb dX6_add_0 rfl (lv_at hl 0 rfl) ?_
  refine va_get (D := D) (ci := 4) (v := .int (tL tx)) (C := RX6) (T := TX6) (N := 7) hx hb hts in_X6 hown hG.1 hP 0 g_Tx_0 rfl 1 (by decide) k_0 (fun _ h9 => h9) rfl dX6_add_1 ?_
  refine lv_bipush (v := (120 : Int32)) hx hb dX6_add_4 (by decide) ?_
  refine lv_icmp_ge (tgt := 29) hx hb dX6_add_6 (by decide) (fun c_1 => ?_) (fun c_1 => ?_)
  · skip
    refine lv_aload_n hx hb dX6_add_29 rfl (lv_at hl 0 rfl) ?_
    refine va_get (D := D) (ci := 4) (v := .int (tL tx)) (C := RX6) (T := TX6) (N := 7) hx hb hts in_X6 hown hG.1 hP 0 g_Tx_0 rfl 1 (by decide) k_0 (fun _ h9 => h9) rfl dX6_add_30 ?_
    exact mu_iret hx hb hr hlocks hP hS dX6_add_33 (by rw [m_X6_add, if_pos c_1]) (by rw [m_X6_add, if_pos c_1])
  · skip
    refine lv_aload_n hx hb dX6_add_9 rfl (lv_at hl 0 rfl) ?_
    refine va_get (D := D) (ci := 4) (v := .ref a1) (C := RX6) (T := TX6) (N := 7) hx hb hts in_X6 hown hG.1 hP 0 g_Tx_0 rfl 0 (by decide) k_1 (fun _ h9 => h9) rfl dX6_add_10 ?_
    refine lv_aload_n hx hb dX6_add_13 rfl (lv_at hl 0 rfl) ?_
    refine va_get (D := D) (ci := 4) (v := .int (tL tx)) (C := RX6) (T := TX6) (N := 7) hx hb hts in_X6 hown hG.1 hP 0 g_Tx_0 rfl 1 (by decide) k_0 (fun _ h9 => h9) rfl dX6_add_14 ?_
    refine lv_iload_n hx hb dX6_add_17 rfl (lv_at hl 1 rfl) ?_
    refine va_iast hx hb hG.1 hP hD hS 1 0 (n := 120) (f := (tS tx)) g_Tx_1 rfl (iv_in (iv_cut2 (h := 119) hT c_1 (by decide)) (by decide) (by decide)) dX6_add_18 (fun H locs hP hD hS => ?_)
    have hP : va_P D vwCl (wTx cy a0 a1 (tS' tx (upd (tS tx) (tL tx).toNatClampNeg x1))) H := va_P_eq hP s_Tx_1
    have hD : va_D A (wTx cy a0 a1 (tS' tx (upd (tS tx) (tL tx).toNatClampNeg x1))) := va_D_eq hD s_Tx_1
    refine lv_aload_n hx hb dX6_add_19 rfl (lv_at hl 0 rfl) ?_
    refine lv_dup hx hb dX6_add_20 rfl ?_
    refine va_get (D := D) (ci := 4) (v := .int (tL tx)) (C := RX6) (T := TX6) (N := 7) hx hb hts in_X6 hown hG.1 hP 0 g_Tx_0 rfl 1 (by decide) k_0 (fun _ h9 => h9) rfl dX6_add_21 ?_
    refine lv_iconst (v := (1 : Int32)) hx hb dX6_add_24 (by decide) ?_
    refine lv_iadd hx hb dX6_add_25 ?_
    refine va_put (D := D) (ci := 4) (v := .int ((tL tx) + (1 : Int32))) (ty := .int) (C := RX6) (T := TX6) (N := 7) hx hb hts in_X6 tyX6 tyX6_ok nmX6 hown hG.1 hP hD hS 0 g_Tx_0 rfl 1 (by decide) k_0 (fun _ h9 => h9) rfl (by decide +kernel) rfl rfl (Nat.le_of_ble_eq_true rfl) dX6_add_26 (fun H locs hP hD hS => ?_)
    have hP : va_P D vwCl (wTx cy a0 a1 (tL' (tS' tx (upd (tS tx) (tL tx).toNatClampNeg x1)) ((tL tx) + (1 : Int32)))) H := va_P_eq hP s_Tx_0_1
    have hD : va_D A (wTx cy a0 a1 (tL' (tS' tx (upd (tS tx) (tL tx).toNatClampNeg x1)) ((tL tx) + (1 : Int32)))) := va_D_eq hD s_Tx_0_1
    refine lv_aload_n hx hb dX6_add_29 rfl (lv_at hl 0 rfl) ?_
    refine va_get (D := D) (ci := 4) (v := .int ((tL tx) + (1 : Int32))) (C := RX6) (T := TX6) (N := 7) hx hb hts in_X6 hown hG.1 hP 0 g_Tx_0 rfl 1 (by decide) k_0 (fun _ h9 => h9) rfl dX6_add_30 ?_
    exact mu_iret hx hb hr hlocks hP hS dX6_add_33 (by rw [m_X6_add, if_neg c_1]) (by rw [m_X6_add, if_neg c_1])
def m_X6_readNumber_L36 : Nat → TxT → Int32 → Int32 → Int32 → Int32 → Int32 → Int32 × TxT
  | 0, r, _, _, _, _, _ => (0, r)
  | nF + 1, r, x1, x2, nu, op, k => if (m_X6_digitsOf x2) ≤ k then (nu, r) else if (x1 + k) < (0 : Int32) then ((-1 : Int32), tE' r (x1 + k)) else if (tL r) ≤ (x1 + k) then ((-1 : Int32), tE' r (x1 + k)) else if ((tS r) (x1 + k).toNatClampNeg) < (48 : Int32) then ((-1 : Int32), tE' r (x1 + k)) else if ((tS r) (x1 + k).toNatClampNeg) ≤ (57 : Int32) then if (m_X6_highestOf x2) < (nu + ((((tS r) (x1 + k).toNatClampNeg) - (48 : Int32)) * op)) then ((-1 : Int32), tE' r (x1 + k)) else if (m_X6_lowestOf x2) ≤ (((nu + ((((tS r) (x1 + k).toNatClampNeg) - (48 : Int32)) * op)) + op) - (1 : Int32)) then m_X6_readNumber_L36 nF (tE' r (x1 + k)) x1 x2 (nu + ((((tS r) (x1 + k).toNatClampNeg) - (48 : Int32)) * op)) (op / (10 : Int32)) (k + (1 : Int32)) else ((-1 : Int32), tE' r (x1 + k)) else ((-1 : Int32), tE' r (x1 + k))
def m_X6_readNumber (tx : TxT) (x1 : Int32) (x2 : Int32) : Int32 × TxT := if (m_X6_digitsOf x2) = (2 : Int32) then m_X6_readNumber_L36 100 tx x1 x2 (0 : Int32) (10 : Int32) (0 : Int32) else m_X6_readNumber_L36 100 tx x1 x2 (0 : Int32) (1 : Int32) (0 : Int32)
theorem hd_X6_readNumber : yX6_readNumber.cls = RX6 ∧ yX6_readNumber.cls ≠ "java/lang/invoke/MethodHandle" ∧ yX6_readNumber.cls ≠ "java/lang/invoke/VarHandle" ∧ (parseMethodDescriptor yX6_readNumber.desc).map (fun d => d.parameters.length) = some 2 := by decide +kernel
set_option maxHeartbeats 8000000 in
set_option maxRecDepth 20000 in
theorem c_X6_readNumber (l : Launch) (D : va_G) (cy : Nat → ClassId) (a0 a1 : Nat) (tx : TxT) (x1 : Int32) (x2 : Int32) (hT : iv 0 120 (tL tx)) : MU l D cy yX6_readNumber wsX6_readNumber ({ frames := 1, cells := 0, slots := 0, locals := 20 } : Room) (wTx cy a0 a1 tx) (wTx cy a0 a1 (m_X6_readNumber tx x1 x2).2) [.ref a0, .int x1, .int x2] (m_X6_readNumber tx x1 x2).1 := by
  refine MU.body (by decide) rfl (Nat.le_of_ble_eq_true rfl) ?_
  intro p e s m below meth c hx hb hml hr hts hown hlocks hP hG ls hl A hD hA hS
  have hl : lv_has ls 10 [(0, .ref a0), (1, .int x1), (2, .int x2)] := hl
  have hCF : CallFix p m c cX6_readNumber 10 s ([.ref a0, .int x1, .int x2] : List Value).toArray wsX6_readNumber RX6 := ⟨hx, hb, hml, hown, hts⟩
  have in_X6 : ∀ w ∈ u_ws RX6 TX6 7, w ∈ wsX6_readNumber := fun _ h => List.mem_cons_of_mem _ (List.mem_append_right _ h)
  have k_0 := hts (Cond.fieldLink RX6 23 "SparePool$Text" "error" "I") (List.mem_of_getElem? (i := 1) rfl)
  have k_1 := hts (Cond.fieldLink RX6 15 "SparePool$Text" "length" "I") (List.mem_of_getElem? (i := 2) rfl)
  have k_2 := hts (Cond.fieldLink RX6 9 "SparePool$Text" "signs" "[I") (List.mem_of_getElem? (i := 3) rfl)
  have hP : va_P D vwCl (wTx cy a0 a1 tx) s.heap := hP
  have L_36 : ∀ (nF : Nat) (r : TxT) (nu : Int32) (op : Int32) (k : Int32), 0 ≤ k.toInt → iv 0 120 (tL r) → ((m_X6_digitsOf x2).toInt - k.toInt).toNat < nF → m_X6_readNumber_L36 nF r x1 x2 nu op k = (m_X6_readNumber tx x1 x2) → ∀ (H : Heap) (locs : List Loc), va_P D vwCl (wTx cy a0 a1 r) H → va_D A (wTx cy a0 a1 r) → va_S A s.heap H locs → ∀ ls : Array Slot, lv_has ls 10 [(0, .ref a0), (1, .int x1), (3, .int (m_X6_digitsOf x2)), (4, .int (m_X6_lowestOf x2)), (5, .int (m_X6_highestOf x2)), (6, .int nu), (7, .int op), (8, .int k)] → W p l e ({ frames := 1, cells := 0, slots := 0, locals := 20 } : Room) s m ([.ref a0, .int x1, .int x2] : List Value).toArray below meth c H locs 0 0 (MQ below (va_Qi (fun v_ (_ : Unit) => v_ = (m_X6_readNumber tx x1 x2).1) (fun _ t => va_P D vwCl (wTx cy a0 a1 (m_X6_readNumber tx x1 x2).2) t.heap) A) ([.ref a0, .int x1, .int x2] : List Value).toArray s 0 0 A) (F0 m 36 ls []) := by
    intro nF
    induction nF with
    | zero => intro r nu op k h0 hT hm; exact absurd hm (Nat.not_lt_zero _)
    | succ nF ih =>
      intro r nu op k h0 hT hm hQ H locs hP hD hS ls hl
      refine lv_iload hx hb dX6_readNumber_36 (lv_at hl 7 rfl) ?_
      refine lv_iload_n hx hb dX6_readNumber_38 rfl (lv_at hl 2 rfl) ?_
      refine lv_icmp_ge (tgt := 146) hx hb dX6_readNumber_39 (by decide) (fun c_1 => ?_) (fun c_1 => ?_)
      · skip
        refine lv_iload hx hb dX6_readNumber_146 (lv_at hl 5 rfl) ?_
        exact mu_iret hx hb hr hlocks hP hS dX6_readNumber_148 (by rw [← hQ, m_X6_readNumber_L36, if_pos c_1]) (by rw [← hQ, m_X6_readNumber_L36, if_pos c_1])
      · skip
        refine lv_iload_n hx hb dX6_readNumber_42 rfl (lv_at hl 1 rfl) ?_
        refine lv_iload hx hb dX6_readNumber_43 (lv_at hl 7 rfl) ?_
        refine lv_iadd hx hb dX6_readNumber_45 ?_
        refine lv_istore (lv' := [(9, .int (x1 + k)), (0, .ref a0), (1, .int x1), (3, .int (m_X6_digitsOf x2)), (4, .int (m_X6_lowestOf x2)), (5, .int (m_X6_highestOf x2)), (6, .int nu), (7, .int op), (8, .int k)]) hx hb dX6_readNumber_46 hl (by decide) rfl (fun ls hl => ?_)
        refine lv_aload_n hx hb dX6_readNumber_48 rfl (lv_at hl 1 rfl) ?_
        refine lv_iload hx hb dX6_readNumber_49 (lv_at hl 0 rfl) ?_
        refine va_put (D := D) (ci := 4) (v := .int (x1 + k)) (ty := .int) (C := RX6) (T := TX6) (N := 7) hx hb hts in_X6 tyX6 tyX6_ok nmX6 hown hG.1 hP hD hS 0 g_Tx_0 rfl 6 (by decide) k_0 (fun _ h9 => h9) rfl (by decide +kernel) rfl rfl (Nat.le_of_ble_eq_true rfl) dX6_readNumber_51 (fun H locs hP hD hS => ?_)
        have hP : va_P D vwCl (wTx cy a0 a1 (tE' r (x1 + k))) H := va_P_eq hP s_Tx_0_6
        have hD : va_D A (wTx cy a0 a1 (tE' r (x1 + k))) := va_D_eq hD s_Tx_0_6
        refine lv_iload hx hb dX6_readNumber_54 (lv_at hl 0 rfl) ?_
        refine lv_if_lt (tgt := 92) hx hb dX6_readNumber_56 (by decide) (fun c_2 => ?_) (fun c_2 => ?_)
        · skip
          refine lv_iconst (v := (-1 : Int32)) hx hb dX6_readNumber_92 (by decide) ?_
          exact mu_iret hx hb hr hlocks hP hS dX6_readNumber_93 (by rw [← hQ, m_X6_readNumber_L36, if_neg c_1, if_pos c_2]) (by rw [← hQ, m_X6_readNumber_L36, if_neg c_1, if_pos c_2])
        · skip
          refine lv_iload hx hb dX6_readNumber_59 (lv_at hl 0 rfl) ?_
          refine lv_aload_n hx hb dX6_readNumber_61 rfl (lv_at hl 1 rfl) ?_
          refine va_get (D := D) (ci := 4) (v := .int (tL r)) (C := RX6) (T := TX6) (N := 7) hx hb hts in_X6 hown hG.1 hP 0 g_Tx_0 rfl 1 (by decide) k_1 (fun _ h9 => h9) rfl dX6_readNumber_62 ?_
          refine lv_icmp_ge (tgt := 92) hx hb dX6_readNumber_65 (by decide) (fun c_3 => ?_) (fun c_3 => ?_)
          · skip
            refine lv_iconst (v := (-1 : Int32)) hx hb dX6_readNumber_92 (by decide) ?_
            exact mu_iret hx hb hr hlocks hP hS dX6_readNumber_93 (by rw [← hQ, m_X6_readNumber_L36, if_neg c_1, if_neg c_2, if_pos c_3]) (by rw [← hQ, m_X6_readNumber_L36, if_neg c_1, if_neg c_2, if_pos c_3])
          · skip
            refine lv_aload_n hx hb dX6_readNumber_68 rfl (lv_at hl 1 rfl) ?_
            refine va_get (D := D) (ci := 4) (v := .ref a1) (C := RX6) (T := TX6) (N := 7) hx hb hts in_X6 hown hG.1 hP 0 g_Tx_0 rfl 0 (by decide) k_2 (fun _ h9 => h9) rfl dX6_readNumber_69 ?_
            refine lv_iload hx hb dX6_readNumber_72 (lv_at hl 0 rfl) ?_
            refine va_iald hx hb hG.1 hP 1 0 (n := 120) (f := (tS r)) g_Tx_1 rfl (iv_in (iv_lu (h := 119) c_2 c_3 hT (by decide)) (by decide) (by decide)) dX6_readNumber_74 ?_
            refine lv_bipush (v := (48 : Int32)) hx hb dX6_readNumber_75 (by decide) ?_
            refine lv_icmp_lt (tgt := 92) hx hb dX6_readNumber_77 (by decide) (fun c_4 => ?_) (fun c_4 => ?_)
            · skip
              refine lv_iconst (v := (-1 : Int32)) hx hb dX6_readNumber_92 (by decide) ?_
              exact mu_iret hx hb hr hlocks hP hS dX6_readNumber_93 (by rw [← hQ, m_X6_readNumber_L36, if_neg c_1, if_neg c_2, if_neg c_3, if_pos c_4]) (by rw [← hQ, m_X6_readNumber_L36, if_neg c_1, if_neg c_2, if_neg c_3, if_pos c_4])
            · skip
              refine lv_aload_n hx hb dX6_readNumber_80 rfl (lv_at hl 1 rfl) ?_
              refine va_get (D := D) (ci := 4) (v := .ref a1) (C := RX6) (T := TX6) (N := 7) hx hb hts in_X6 hown hG.1 hP 0 g_Tx_0 rfl 0 (by decide) k_2 (fun _ h9 => h9) rfl dX6_readNumber_81 ?_
              refine lv_iload hx hb dX6_readNumber_84 (lv_at hl 0 rfl) ?_
              refine va_iald hx hb hG.1 hP 1 0 (n := 120) (f := (tS r)) g_Tx_1 rfl (iv_in (iv_lu (h := 119) c_2 c_3 hT (by decide)) (by decide) (by decide)) dX6_readNumber_86 ?_
              refine lv_bipush (v := (57 : Int32)) hx hb dX6_readNumber_87 (by decide) ?_
              refine lv_icmp_le (tgt := 94) hx hb dX6_readNumber_89 (by decide) (fun c_5 => ?_) (fun c_5 => ?_)
              · skip
                refine lv_iload hx hb dX6_readNumber_94 (lv_at hl 6 rfl) ?_
                refine lv_aload_n hx hb dX6_readNumber_96 rfl (lv_at hl 1 rfl) ?_
                refine va_get (D := D) (ci := 4) (v := .ref a1) (C := RX6) (T := TX6) (N := 7) hx hb hts in_X6 hown hG.1 hP 0 g_Tx_0 rfl 0 (by decide) k_2 (fun _ h9 => h9) rfl dX6_readNumber_97 ?_
                refine lv_iload hx hb dX6_readNumber_100 (lv_at hl 0 rfl) ?_
                refine va_iald hx hb hG.1 hP 1 0 (n := 120) (f := (tS r)) g_Tx_1 rfl (iv_in (iv_lu (h := 119) c_2 c_3 hT (by decide)) (by decide) (by decide)) dX6_readNumber_102 ?_
                refine lv_bipush (v := (48 : Int32)) hx hb dX6_readNumber_103 (by decide) ?_
                refine lv_isub hx hb dX6_readNumber_105 ?_
                refine lv_iload hx hb dX6_readNumber_106 (lv_at hl 7 rfl) ?_
                refine lv_imul hx hb dX6_readNumber_108 ?_
                refine lv_iadd hx hb dX6_readNumber_109 ?_
                refine lv_istore (lv' := [(6, .int (nu + ((((tS r) (x1 + k).toNatClampNeg) - (48 : Int32)) * op))), (9, .int (x1 + k)), (0, .ref a0), (1, .int x1), (3, .int (m_X6_digitsOf x2)), (4, .int (m_X6_lowestOf x2)), (5, .int (m_X6_highestOf x2)), (7, .int op), (8, .int k)]) hx hb dX6_readNumber_110 hl (by decide) rfl (fun ls hl => ?_)
                refine lv_iload hx hb dX6_readNumber_112 (lv_at hl 0 rfl) ?_
                refine lv_iload hx hb dX6_readNumber_114 (lv_at hl 6 rfl) ?_
                refine lv_icmp_gt (tgt := 131) hx hb dX6_readNumber_116 (by decide) (fun c_6 => ?_) (fun c_6 => ?_)
                · skip
                  refine lv_iconst (v := (-1 : Int32)) hx hb dX6_readNumber_131 (by decide) ?_
                  exact mu_iret hx hb hr hlocks hP hS dX6_readNumber_132 (by rw [← hQ, m_X6_readNumber_L36, if_neg c_1, if_neg c_2, if_neg c_3, if_neg c_4, if_pos c_5, if_pos c_6]) (by rw [← hQ, m_X6_readNumber_L36, if_neg c_1, if_neg c_2, if_neg c_3, if_neg c_4, if_pos c_5, if_pos c_6])
                · skip
                  refine lv_iload hx hb dX6_readNumber_119 (lv_at hl 0 rfl) ?_
                  refine lv_iload hx hb dX6_readNumber_121 (lv_at hl 7 rfl) ?_
                  refine lv_iadd hx hb dX6_readNumber_123 ?_
                  refine lv_iconst (v := (1 : Int32)) hx hb dX6_readNumber_124 (by decide) ?_
                  refine lv_isub hx hb dX6_readNumber_125 ?_
                  refine lv_iload hx hb dX6_readNumber_126 (lv_at hl 5 rfl) ?_
                  refine lv_icmp_ge (tgt := 133) hx hb dX6_readNumber_128 (by decide) (fun c_7 => ?_) (fun c_7 => ?_)
                  · skip
                    refine lv_iload hx hb dX6_readNumber_133 (lv_at hl 7 rfl) ?_
                    refine lv_bipush (v := (10 : Int32)) hx hb dX6_readNumber_135 (by decide) ?_
                    refine lv_idiv hx hb dX6_readNumber_137 (by decide) ?_
                    refine lv_istore (lv' := [(7, .int (op / (10 : Int32))), (6, .int (nu + ((((tS r) (x1 + k).toNatClampNeg) - (48 : Int32)) * op))), (9, .int (x1 + k)), (0, .ref a0), (1, .int x1), (3, .int (m_X6_digitsOf x2)), (4, .int (m_X6_lowestOf x2)), (5, .int (m_X6_highestOf x2)), (8, .int k)]) hx hb dX6_readNumber_138 hl (by decide) rfl (fun ls hl => ?_)
                    refine lv_iinc (v := (k + (1 : Int32))) (lv' := [(8, .int (k + (1 : Int32))), (7, .int (op / (10 : Int32))), (6, .int (nu + ((((tS r) (x1 + k).toNatClampNeg) - (48 : Int32)) * op))), (9, .int (x1 + k)), (0, .ref a0), (1, .int x1), (3, .int (m_X6_digitsOf x2)), (4, .int (m_X6_lowestOf x2)), (5, .int (m_X6_highestOf x2))]) hx hb dX6_readNumber_140 hl (k := 8) rfl rfl (by decide) rfl (fun ls hl => ?_)
                    refine lv_goto (tgt := 36) hx hb dX6_readNumber_143 (by decide) ?_
                    exact ih  (tE' r (x1 + k)) (nu + ((((tS r) (x1 + k).toNatClampNeg) - (48 : Int32)) * op)) (op / (10 : Int32)) (k + (1 : Int32)) (lp_up h0 c_1) hT (lp_dec h0 c_1 hm) (by rw [← hQ, m_X6_readNumber_L36, if_neg c_1, if_neg c_2, if_neg c_3, if_neg c_4, if_pos c_5, if_neg c_6, if_pos c_7]) H locs hP hD hS ls (lv_sub hl [4, 5, 6, 7, 8, 2, 1, 0] rfl)
                  · skip
                    refine lv_iconst (v := (-1 : Int32)) hx hb dX6_readNumber_131 (by decide) ?_
                    exact mu_iret hx hb hr hlocks hP hS dX6_readNumber_132 (by rw [← hQ, m_X6_readNumber_L36, if_neg c_1, if_neg c_2, if_neg c_3, if_neg c_4, if_pos c_5, if_neg c_6, if_neg c_7]) (by rw [← hQ, m_X6_readNumber_L36, if_neg c_1, if_neg c_2, if_neg c_3, if_neg c_4, if_pos c_5, if_neg c_6, if_neg c_7])
              · skip
                refine lv_iconst (v := (-1 : Int32)) hx hb dX6_readNumber_92 (by decide) ?_
                exact mu_iret hx hb hr hlocks hP hS dX6_readNumber_93 (by rw [← hQ, m_X6_readNumber_L36, if_neg c_1, if_neg c_2, if_neg c_3, if_neg c_4, if_neg c_5]) (by rw [← hQ, m_X6_readNumber_L36, if_neg c_1, if_neg c_2, if_neg c_3, if_neg c_4, if_neg c_5])
  refine lv_iload_n hx hb dX6_readNumber_0 rfl (lv_at hl 2 rfl) ?_
  refine roS (wc := ([] : va_W)) (As := [.int x2]) (rest := []) (c_X6_digitsOf l D cy x2) hCF gX6_readNumber_X6_digitsOf rfl hd_X6_digitsOf ⟨rfl, rfl, Nat.le_of_ble_eq_true rfl, Nat.le_of_ble_eq_true rfl⟩ hG va_P_nil rfl hl.1 rfl (Nat.le_of_ble_eq_true rfl) dX6_readNumber_1 ⟨Nat.le_refl _, Nat.le_refl _⟩ ?_
  refine lv_istore_n (lv' := [(3, .int (m_X6_digitsOf x2)), (0, .ref a0), (1, .int x1), (2, .int x2)]) hx hb dX6_readNumber_4 rfl hl (by decide) rfl (fun ls hl => ?_)
  refine lv_iload_n hx hb dX6_readNumber_5 rfl (lv_at hl 3 rfl) ?_
  refine roS (wc := ([] : va_W)) (As := [.int x2]) (rest := []) (c_X6_lowestOf l D cy x2) hCF gX6_readNumber_X6_lowestOf rfl hd_X6_lowestOf ⟨rfl, rfl, Nat.le_of_ble_eq_true rfl, Nat.le_of_ble_eq_true rfl⟩ hG va_P_nil rfl hl.1 rfl (Nat.le_of_ble_eq_true rfl) dX6_readNumber_6 ⟨Nat.le_refl _, Nat.le_refl _⟩ ?_
  refine lv_istore (lv' := [(4, .int (m_X6_lowestOf x2)), (3, .int (m_X6_digitsOf x2)), (0, .ref a0), (1, .int x1), (2, .int x2)]) hx hb dX6_readNumber_9 hl (by decide) rfl (fun ls hl => ?_)
  refine lv_iload_n hx hb dX6_readNumber_11 rfl (lv_at hl 4 rfl) ?_
  refine roS (wc := ([] : va_W)) (As := [.int x2]) (rest := []) (c_X6_highestOf l D cy x2) hCF gX6_readNumber_X6_highestOf rfl hd_X6_highestOf ⟨rfl, rfl, Nat.le_of_ble_eq_true rfl, Nat.le_of_ble_eq_true rfl⟩ hG va_P_nil rfl hl.1 rfl (Nat.le_of_ble_eq_true rfl) dX6_readNumber_12 ⟨Nat.le_refl _, Nat.le_refl _⟩ ?_
  refine lv_istore (lv' := [(5, .int (m_X6_highestOf x2)), (4, .int (m_X6_lowestOf x2)), (3, .int (m_X6_digitsOf x2)), (0, .ref a0), (1, .int x1), (2, .int x2)]) hx hb dX6_readNumber_15 hl (by decide) rfl (fun ls hl => ?_)
  refine lv_iconst (v := (0 : Int32)) hx hb dX6_readNumber_17 (by decide) ?_
  refine lv_istore (lv' := [(6, .int (0 : Int32)), (5, .int (m_X6_highestOf x2)), (4, .int (m_X6_lowestOf x2)), (3, .int (m_X6_digitsOf x2)), (0, .ref a0), (1, .int x1), (2, .int x2)]) hx hb dX6_readNumber_18 hl (by decide) rfl (fun ls hl => ?_)
  refine lv_iload_n hx hb dX6_readNumber_20 rfl (lv_at hl 3 rfl) ?_
  refine lv_iconst (v := (2 : Int32)) hx hb dX6_readNumber_21 (by decide) ?_
  refine lv_icmp_ne (tgt := 30) hx hb dX6_readNumber_22 (by decide) (fun c_8 => ?_) (fun c_8 => ?_)
  · skip
    refine lv_iconst (v := (1 : Int32)) hx hb dX6_readNumber_30 (by decide) ?_
    refine lv_istore (lv' := [(7, .int (1 : Int32)), (6, .int (0 : Int32)), (5, .int (m_X6_highestOf x2)), (4, .int (m_X6_lowestOf x2)), (3, .int (m_X6_digitsOf x2)), (0, .ref a0), (1, .int x1), (2, .int x2)]) hx hb dX6_readNumber_31 hl (by decide) rfl (fun ls hl => ?_)
    refine lv_iconst (v := (0 : Int32)) hx hb dX6_readNumber_33 (by decide) ?_
    refine lv_istore (lv' := [(8, .int (0 : Int32)), (7, .int (1 : Int32)), (6, .int (0 : Int32)), (5, .int (m_X6_highestOf x2)), (4, .int (m_X6_lowestOf x2)), (3, .int (m_X6_digitsOf x2)), (0, .ref a0), (1, .int x1), (2, .int x2)]) hx hb dX6_readNumber_34 hl (by decide) rfl (fun ls hl => ?_)
    exact L_36 100 tx (0 : Int32) (1 : Int32) (0 : Int32) (by decide) hT (lp_init (M := 2) (dg_le _) (by decide)) (by rw [m_X6_readNumber, if_neg c_8]) s.heap [] hP hD hS ls (lv_sub hl [6, 7, 5, 4, 3, 2, 1, 0] rfl)
  · skip
    refine lv_bipush (v := (10 : Int32)) hx hb dX6_readNumber_25 (by decide) ?_
    refine lv_goto (tgt := 31) hx hb dX6_readNumber_27 (by decide) ?_
    refine lv_istore (lv' := [(7, .int (10 : Int32)), (6, .int (0 : Int32)), (5, .int (m_X6_highestOf x2)), (4, .int (m_X6_lowestOf x2)), (3, .int (m_X6_digitsOf x2)), (0, .ref a0), (1, .int x1), (2, .int x2)]) hx hb dX6_readNumber_31 hl (by decide) rfl (fun ls hl => ?_)
    refine lv_iconst (v := (0 : Int32)) hx hb dX6_readNumber_33 (by decide) ?_
    refine lv_istore (lv' := [(8, .int (0 : Int32)), (7, .int (10 : Int32)), (6, .int (0 : Int32)), (5, .int (m_X6_highestOf x2)), (4, .int (m_X6_lowestOf x2)), (3, .int (m_X6_digitsOf x2)), (0, .ref a0), (1, .int x1), (2, .int x2)]) hx hb dX6_readNumber_34 hl (by decide) rfl (fun ls hl => ?_)
    exact L_36 100 tx (0 : Int32) (10 : Int32) (0 : Int32) (by decide) hT (lp_init (M := 2) (dg_le _) (by decide)) (by rw [m_X6_readNumber, if_pos c_8]) s.heap [] hP hD hS ls (lv_sub hl [6, 7, 5, 4, 3, 2, 1, 0] rfl)
theorem rn_LL (x1 x2 : Int32) : ∀ (nF : Nat) (r : TxT) (a b c : Int32), tL (m_X6_readNumber_L36 nF r x1 x2 a b c).2 = tL r := by
  intro nF
  induction nF with
  | zero => intro r a b c; rfl
  | succ nF ih =>
    intro r a b c
    rw [m_X6_readNumber_L36]
    repeat' split
    all_goals first
      | rfl
      | (rw [ih]; rfl)
theorem rn_L (tx : TxT) (x1 x2 : Int32) : tL (m_X6_readNumber tx x1 x2).2 = tL tx := by
  unfold m_X6_readNumber
  repeat' split
  all_goals first
    | rfl
    | exact rn_LL _ _ _ _ _ _ _
theorem rn_T {tx : TxT} {x1 x2 : Int32} (h : iv 0 120 (tL tx)) : iv 0 120 (tL (m_X6_readNumber tx x1 x2).2) := by
  rw [rn_L]
  exact h
def m_X6_readCommand_L53 : Nat → TxT → Int32 → TxT → Int32 → Int32 → Int32 × TxT
  | 0, _, _, rr, _, _ => (0, rr)
  | nF + 1, tx, x1, rr, pa, k => if (sLen (m_X6_fieldsOf ((tS tx) x1.toNatClampNeg))) ≤ k then (pa, rr) else if (m_X6_readNumber rr pa (sCh (m_X6_fieldsOf ((tS tx) x1.toNatClampNeg)) k)).1 = (-1 : Int32) then ((-1 : Int32), (m_X6_readNumber rr pa (sCh (m_X6_fieldsOf ((tS tx) x1.toNatClampNeg)) k)).2) else m_X6_readCommand_L53 nF tx x1 (m_X6_put (m_X6_readNumber rr pa (sCh (m_X6_fieldsOf ((tS tx) x1.toNatClampNeg)) k)).2 k (m_X6_readNumber rr pa (sCh (m_X6_fieldsOf ((tS tx) x1.toNatClampNeg)) k)).1) (pa + (m_X6_digitsOf (sCh (m_X6_fieldsOf ((tS tx) x1.toNatClampNeg)) k))) (k + (1 : Int32))
def m_X6_readCommand (tx : TxT) (x1 : Int32) : Int32 × TxT := if x1 < (0 : Int32) then ((-1 : Int32), tE' tx x1) else if x1 < (tL tx) then if (sEmpty (m_X6_fieldsOf ((tS tx) x1.toNatClampNeg))) = (0 : Int32) then m_X6_readCommand_L53 100 tx x1 (tC' (tE' tx x1) ((tS tx) x1.toNatClampNeg)) (x1 + (1 : Int32)) (0 : Int32) else ((-1 : Int32), tC' (tE' tx x1) ((tS tx) x1.toNatClampNeg)) else ((-1 : Int32), tE' tx x1)
theorem hd_X6_readCommand : yX6_readCommand.cls = RX6 ∧ yX6_readCommand.cls ≠ "java/lang/invoke/MethodHandle" ∧ yX6_readCommand.cls ≠ "java/lang/invoke/VarHandle" ∧ (parseMethodDescriptor yX6_readCommand.desc).map (fun d => d.parameters.length) = some 1 := by decide +kernel
set_option maxHeartbeats 8000000 in
set_option maxRecDepth 20000 in
theorem c_X6_readCommand (l : Launch) (D : va_G) (cy : Nat → ClassId) (t : FxA) (a0 a1 : Nat) (tx : TxT) (x1 : Int32) (hT : iv 0 120 (tL tx)) : MUf l D cy t yX6_readCommand wsX6_readCommand ({ frames := 4, cells := 0, slots := 0, locals := 85 } : Room) (wTx cy a0 a1 tx) (wTx cy a0 a1 (m_X6_readCommand tx x1).2) [.ref a0, .int x1] (m_X6_readCommand tx x1).1 := by
  refine MUf.body (by decide) rfl (Nat.le_of_ble_eq_true rfl) ?_
  intro p e s m below meth c hx hb hml hr hts hown hlocks hP hG ls hl A hD hA hS hF
  have hl : lv_has ls 7 [(0, .ref a0), (1, .int x1)] := hl
  have hCF : CallFix p m c cX6_readCommand 7 s ([.ref a0, .int x1] : List Value).toArray wsX6_readCommand RX6 := ⟨hx, hb, hml, hown, hts⟩
  have in_X6 : ∀ w ∈ u_ws RX6 TX6 7, w ∈ wsX6_readCommand := fun _ h => List.mem_cons_of_mem _ (List.mem_append_right _ h)
  have k_0 := hts (Cond.fieldLink RX6 23 "SparePool$Text" "error" "I") (List.mem_of_getElem? (i := 1) rfl)
  have k_1 := hts (Cond.fieldLink RX6 15 "SparePool$Text" "length" "I") (List.mem_of_getElem? (i := 2) rfl)
  have k_2 := hts (Cond.fieldLink RX6 9 "SparePool$Text" "signs" "[I") (List.mem_of_getElem? (i := 3) rfl)
  have k_3 := hts (Cond.fieldLink RX6 26 "SparePool$Text" "command" "I") (List.mem_of_getElem? (i := 4) rfl)
  have hP : va_P D vwCl (wTx cy a0 a1 tx) s.heap := hP
  have L_53 : ∀ (nF : Nat) (rr : TxT) (pa : Int32) (k : Int32), 0 ≤ k.toInt → iv 0 120 (tL rr) → ((sLen (m_X6_fieldsOf ((tS tx) x1.toNatClampNeg))).toInt - k.toInt).toNat < nF → m_X6_readCommand_L53 nF tx x1 rr pa k = (m_X6_readCommand tx x1) → ∀ (H : Heap) (locs : List Loc), va_P D vwCl (wTx cy a0 a1 rr) H → va_D A (wTx cy a0 a1 rr) → va_S A s.heap H locs → ∀ ls : Array Slot, lv_has ls 7 [(0, .ref a0), (2, .ref (t.2.2.1 (m_X6_fieldsOf ((tS tx) x1.toNatClampNeg)))), (3, .int pa), (4, .int k)] → W p l e ({ frames := 4, cells := 0, slots := 0, locals := 85 } : Room) s m ([.ref a0, .int x1] : List Value).toArray below meth c H locs 0 0 (MQ below (va_Qi (fun v_ (_ : Unit) => v_ = (m_X6_readCommand tx x1).1) (fun _ t => va_P D vwCl (wTx cy a0 a1 (m_X6_readCommand tx x1).2) t.heap) A) ([.ref a0, .int x1] : List Value).toArray s 0 0 A) (F0 m 53 ls []) := by
    intro nF
    induction nF with
    | zero => intro rr pa k h0 hT hm; exact absurd hm (Nat.not_lt_zero _)
    | succ nF ih =>
      intro rr pa k h0 hT hm hQ H locs hP hD hS ls hl
      refine lv_iload hx hb dX6_readCommand_53 (lv_at hl 3 rfl) ?_
      refine lv_aload_n hx hb dX6_readCommand_55 rfl (lv_at hl 1 rfl) ?_
      refine rfK (C := RJ0) (wc := ([] : va_W)) (As := []) (rest := [.int k]) (c_sLen l D cy t A (m_X6_fieldsOf ((tS tx) x1.toNatClampNeg)) (fi_lt _)) hCF gX6_readCommand_J0_length_8abf5 rfl hd_sLen ⟨rfl, rfl, Nat.le_of_ble_eq_true rfl, Nat.le_of_ble_eq_true rfl⟩ hG hF hS va_P_nil (vk_recv hF.2.2.1.1 (fi_lt _) hS) rfl hl.1 rfl (Nat.le_of_ble_eq_true rfl) dX6_readCommand_56 ⟨Nat.le_refl _, Nat.le_refl _⟩ ?_
      refine lv_icmp_ge (tgt := 109) hx hb dX6_readCommand_59 (by decide) (fun c_1 => ?_) (fun c_1 => ?_)
      · skip
        refine lv_iload_n hx hb dX6_readCommand_109 rfl (lv_at hl 2 rfl) ?_
        exact mu_iret hx hb hr hlocks hP hS dX6_readCommand_110 (by rw [← hQ, m_X6_readCommand_L53, if_pos c_1]) (by rw [← hQ, m_X6_readCommand_L53, if_pos c_1])
      · skip
        refine lv_aload_n hx hb dX6_readCommand_62 rfl (lv_at hl 1 rfl) ?_
        refine lv_iload hx hb dX6_readCommand_63 (lv_at hl 3 rfl) ?_
        refine rfK (C := RJ0) (wc := ([] : va_W)) (As := [.int k]) (rest := []) (c_sAt l D cy t A (m_X6_fieldsOf ((tS tx) x1.toNatClampNeg)) k (fi_lt _) (nn_lt h0) (ngt_lt c_1)) hCF gX6_readCommand_J0_charAt_5068e rfl hd_sAt ⟨rfl, rfl, Nat.le_of_ble_eq_true rfl, Nat.le_of_ble_eq_true rfl⟩ hG hF hS va_P_nil (vk_recv hF.2.2.1.1 (fi_lt _) hS) rfl hl.1 rfl (Nat.le_of_ble_eq_true rfl) dX6_readCommand_65 ⟨Nat.le_refl _, Nat.le_refl _⟩ ?_
        refine lv_istore (lv' := [(5, .int (sCh (m_X6_fieldsOf ((tS tx) x1.toNatClampNeg)) k)), (0, .ref a0), (2, .ref (t.2.2.1 (m_X6_fieldsOf ((tS tx) x1.toNatClampNeg)))), (3, .int pa), (4, .int k)]) hx hb dX6_readCommand_68 hl (by decide) rfl (fun ls hl => ?_)
        refine lv_aload_n hx hb dX6_readCommand_70 rfl (lv_at hl 1 rfl) ?_
        refine lv_iload_n hx hb dX6_readCommand_71 rfl (lv_at hl 3 rfl) ?_
        refine lv_iload hx hb dX6_readCommand_72 (lv_at hl 0 rfl) ?_
        refine muV (A0 := A) (wc := (wTx cy a0 a1 rr)) (As := [.int pa, .int (sCh (m_X6_fieldsOf ((tS tx) x1.toNatClampNeg)) k)]) (rest := []) (c_X6_readNumber l D cy a0 a1 rr pa (sCh (m_X6_fieldsOf ((tS tx) x1.toNatClampNeg)) k) hT) hCF gX6_readCommand_X6_readNumber rfl hd_X6_readNumber ⟨rfl, rfl, Nat.le_of_ble_eq_true rfl, Nat.le_of_ble_eq_true rfl⟩ hG hP hD hS hA [0, 1] rfl c_Tx_Tx h_Tx (ci := 4) rfl rfl g_Tx_0 rfl hl.1 rfl (Nat.le_of_ble_eq_true rfl) dX6_readCommand_74 ⟨Nat.le_refl _, Nat.le_refl _⟩ (fun H locs hP hD hS => ?_)
        have hP : va_P D vwCl (wTx cy a0 a1 (m_X6_readNumber rr pa (sCh (m_X6_fieldsOf ((tS tx) x1.toNatClampNeg)) k)).2) H := va_P_eq hP r_Tx_Tx
        have hD : va_D A (wTx cy a0 a1 (m_X6_readNumber rr pa (sCh (m_X6_fieldsOf ((tS tx) x1.toNatClampNeg)) k)).2) := va_D_eq hD r_Tx_Tx
        refine lv_istore (lv' := [(6, .int (m_X6_readNumber rr pa (sCh (m_X6_fieldsOf ((tS tx) x1.toNatClampNeg)) k)).1), (5, .int (sCh (m_X6_fieldsOf ((tS tx) x1.toNatClampNeg)) k)), (0, .ref a0), (2, .ref (t.2.2.1 (m_X6_fieldsOf ((tS tx) x1.toNatClampNeg)))), (3, .int pa), (4, .int k)]) hx hb dX6_readCommand_77 hl (by decide) rfl (fun ls hl => ?_)
        refine lv_iload hx hb dX6_readCommand_79 (lv_at hl 0 rfl) ?_
        refine lv_iconst (v := (-1 : Int32)) hx hb dX6_readCommand_81 (by decide) ?_
        refine lv_icmp_ne (tgt := 87) hx hb dX6_readCommand_82 (by decide) (fun c_2 => ?_) (fun c_2 => ?_)
        · skip
          refine lv_aload_n hx hb dX6_readCommand_87 rfl (lv_at hl 2 rfl) ?_
          refine lv_iload hx hb dX6_readCommand_88 (lv_at hl 5 rfl) ?_
          refine lv_iload hx hb dX6_readCommand_90 (lv_at hl 0 rfl) ?_
          refine mvV (A0 := A) (wc := (wTx cy a0 a1 (m_X6_readNumber rr pa (sCh (m_X6_fieldsOf ((tS tx) x1.toNatClampNeg)) k)).2)) (As := [.int k, .int (m_X6_readNumber rr pa (sCh (m_X6_fieldsOf ((tS tx) x1.toNatClampNeg)) k)).1]) (rest := []) (c_X6_put l D cy a0 a1 (m_X6_readNumber rr pa (sCh (m_X6_fieldsOf ((tS tx) x1.toNatClampNeg)) k)).2 k (m_X6_readNumber rr pa (sCh (m_X6_fieldsOf ((tS tx) x1.toNatClampNeg)) k)).1) hCF gX6_readCommand_X6_put rfl hd_X6_put ⟨rfl, rfl, Nat.le_of_ble_eq_true rfl, Nat.le_of_ble_eq_true rfl⟩ hG hP hD hS hA [0, 1] rfl c_Tx_Tx h_Tx (ci := 4) rfl rfl g_Tx_0 rfl hl.1 rfl (Nat.le_of_ble_eq_true rfl) dX6_readCommand_92 ⟨Nat.le_refl _, Nat.le_refl _⟩ (fun H locs hP hD hS => ?_)
          have hP : va_P D vwCl (wTx cy a0 a1 (m_X6_put (m_X6_readNumber rr pa (sCh (m_X6_fieldsOf ((tS tx) x1.toNatClampNeg)) k)).2 k (m_X6_readNumber rr pa (sCh (m_X6_fieldsOf ((tS tx) x1.toNatClampNeg)) k)).1)) H := va_P_eq hP r_Tx_Tx
          have hD : va_D A (wTx cy a0 a1 (m_X6_put (m_X6_readNumber rr pa (sCh (m_X6_fieldsOf ((tS tx) x1.toNatClampNeg)) k)).2 k (m_X6_readNumber rr pa (sCh (m_X6_fieldsOf ((tS tx) x1.toNatClampNeg)) k)).1)) := va_D_eq hD r_Tx_Tx
          refine lv_iload_n hx hb dX6_readCommand_95 rfl (lv_at hl 4 rfl) ?_
          refine lv_iload hx hb dX6_readCommand_96 (lv_at hl 1 rfl) ?_
          refine roS (wc := ([] : va_W)) (As := [.int (sCh (m_X6_fieldsOf ((tS tx) x1.toNatClampNeg)) k)]) (rest := [.int pa]) (c_X6_digitsOf l D cy (sCh (m_X6_fieldsOf ((tS tx) x1.toNatClampNeg)) k)) hCF gX6_readCommand_X6_digitsOf rfl hd_X6_digitsOf ⟨rfl, rfl, Nat.le_of_ble_eq_true rfl, Nat.le_of_ble_eq_true rfl⟩ hG va_P_nil rfl hl.1 rfl (Nat.le_of_ble_eq_true rfl) dX6_readCommand_98 ⟨Nat.le_refl _, Nat.le_refl _⟩ ?_
          refine lv_iadd hx hb dX6_readCommand_101 ?_
          refine lv_istore_n (lv' := [(3, .int (pa + (m_X6_digitsOf (sCh (m_X6_fieldsOf ((tS tx) x1.toNatClampNeg)) k)))), (6, .int (m_X6_readNumber rr pa (sCh (m_X6_fieldsOf ((tS tx) x1.toNatClampNeg)) k)).1), (5, .int (sCh (m_X6_fieldsOf ((tS tx) x1.toNatClampNeg)) k)), (0, .ref a0), (2, .ref (t.2.2.1 (m_X6_fieldsOf ((tS tx) x1.toNatClampNeg)))), (4, .int k)]) hx hb dX6_readCommand_102 rfl hl (by decide) rfl (fun ls hl => ?_)
          refine lv_iinc (v := (k + (1 : Int32))) (lv' := [(4, .int (k + (1 : Int32))), (3, .int (pa + (m_X6_digitsOf (sCh (m_X6_fieldsOf ((tS tx) x1.toNatClampNeg)) k)))), (6, .int (m_X6_readNumber rr pa (sCh (m_X6_fieldsOf ((tS tx) x1.toNatClampNeg)) k)).1), (5, .int (sCh (m_X6_fieldsOf ((tS tx) x1.toNatClampNeg)) k)), (0, .ref a0), (2, .ref (t.2.2.1 (m_X6_fieldsOf ((tS tx) x1.toNatClampNeg))))]) hx hb dX6_readCommand_103 hl (k := 5) rfl rfl (by decide) rfl (fun ls hl => ?_)
          refine lv_goto (tgt := 53) hx hb dX6_readCommand_106 (by decide) ?_
          exact ih  (m_X6_put (m_X6_readNumber rr pa (sCh (m_X6_fieldsOf ((tS tx) x1.toNatClampNeg)) k)).2 k (m_X6_readNumber rr pa (sCh (m_X6_fieldsOf ((tS tx) x1.toNatClampNeg)) k)).1) (pa + (m_X6_digitsOf (sCh (m_X6_fieldsOf ((tS tx) x1.toNatClampNeg)) k))) (k + (1 : Int32)) (lp_up h0 c_1) (pt_T (rn_T hT)) (lp_dec h0 c_1 hm) (by rw [← hQ, m_X6_readCommand_L53, if_neg c_1, if_neg c_2]) H locs hP hD hS ls (lv_sub hl [4, 5, 1, 0] rfl)
        · skip
          refine lv_iconst (v := (-1 : Int32)) hx hb dX6_readCommand_85 (by decide) ?_
          exact mu_iret hx hb hr hlocks hP hS dX6_readCommand_86 (by rw [← hQ, m_X6_readCommand_L53, if_neg c_1, if_pos c_2]) (by rw [← hQ, m_X6_readCommand_L53, if_neg c_1, if_pos c_2])
  refine lv_aload_n hx hb dX6_readCommand_0 rfl (lv_at hl 0 rfl) ?_
  refine lv_iload_n hx hb dX6_readCommand_1 rfl (lv_at hl 1 rfl) ?_
  refine va_put (D := D) (ci := 4) (v := .int x1) (ty := .int) (C := RX6) (T := TX6) (N := 7) hx hb hts in_X6 tyX6 tyX6_ok nmX6 hown hG.1 hP hD hS 0 g_Tx_0 rfl 6 (by decide) k_0 (fun _ h9 => h9) rfl (by decide +kernel) rfl rfl (Nat.le_of_ble_eq_true rfl) dX6_readCommand_2 (fun H locs hP hD hS => ?_)
  have hP : va_P D vwCl (wTx cy a0 a1 (tE' tx x1)) H := va_P_eq hP s_Tx_0_6
  have hD : va_D A (wTx cy a0 a1 (tE' tx x1)) := va_D_eq hD s_Tx_0_6
  refine lv_iload_n hx hb dX6_readCommand_5 rfl (lv_at hl 1 rfl) ?_
  refine lv_if_lt (tgt := 17) hx hb dX6_readCommand_6 (by decide) (fun c_3 => ?_) (fun c_3 => ?_)
  · skip
    refine lv_iconst (v := (-1 : Int32)) hx hb dX6_readCommand_17 (by decide) ?_
    exact mu_iret hx hb hr hlocks hP hS dX6_readCommand_18 (by rw [m_X6_readCommand, if_pos c_3]) (by rw [m_X6_readCommand, if_pos c_3])
  · skip
    refine lv_iload_n hx hb dX6_readCommand_9 rfl (lv_at hl 1 rfl) ?_
    refine lv_aload_n hx hb dX6_readCommand_10 rfl (lv_at hl 0 rfl) ?_
    refine va_get (D := D) (ci := 4) (v := .int (tL tx)) (C := RX6) (T := TX6) (N := 7) hx hb hts in_X6 hown hG.1 hP 0 g_Tx_0 rfl 1 (by decide) k_1 (fun _ h9 => h9) rfl dX6_readCommand_11 ?_
    refine lv_icmp_lt (tgt := 19) hx hb dX6_readCommand_14 (by decide) (fun c_4 => ?_) (fun c_4 => ?_)
    · skip
      refine lv_aload_n hx hb dX6_readCommand_19 rfl (lv_at hl 0 rfl) ?_
      refine lv_aload_n hx hb dX6_readCommand_20 rfl (lv_at hl 0 rfl) ?_
      refine va_get (D := D) (ci := 4) (v := .ref a1) (C := RX6) (T := TX6) (N := 7) hx hb hts in_X6 hown hG.1 hP 0 g_Tx_0 rfl 0 (by decide) k_2 (fun _ h9 => h9) rfl dX6_readCommand_21 ?_
      refine lv_iload_n hx hb dX6_readCommand_24 rfl (lv_at hl 1 rfl) ?_
      refine va_iald hx hb hG.1 hP 1 0 (n := 120) (f := (tS tx)) g_Tx_1 rfl (iv_in (iv_lu2 (h := 119) c_3 c_4 hT (by decide)) (by decide) (by decide)) dX6_readCommand_25 ?_
      refine va_put (D := D) (ci := 4) (v := .int ((tS tx) x1.toNatClampNeg)) (ty := .int) (C := RX6) (T := TX6) (N := 7) hx hb hts in_X6 tyX6 tyX6_ok nmX6 hown hG.1 hP hD hS 0 g_Tx_0 rfl 2 (by decide) k_3 (fun _ h9 => h9) rfl (by decide +kernel) rfl rfl (Nat.le_of_ble_eq_true rfl) dX6_readCommand_26 (fun H locs hP hD hS => ?_)
      have hP : va_P D vwCl (wTx cy a0 a1 (tC' (tE' tx x1) ((tS tx) x1.toNatClampNeg))) H := va_P_eq hP s_Tx_0_2
      have hD : va_D A (wTx cy a0 a1 (tC' (tE' tx x1) ((tS tx) x1.toNatClampNeg))) := va_D_eq hD s_Tx_0_2
      refine lv_aload_n hx hb dX6_readCommand_29 rfl (lv_at hl 0 rfl) ?_
      refine va_get (D := D) (ci := 4) (v := .int ((tS tx) x1.toNatClampNeg)) (C := RX6) (T := TX6) (N := 7) hx hb hts in_X6 hown hG.1 hP 0 g_Tx_0 rfl 2 (by decide) k_3 (fun _ h9 => h9) rfl dX6_readCommand_30 ?_
      refine rrS (As := [.int ((tS tx) x1.toNatClampNeg)]) (rest := []) (c_X6_fieldsOf l D cy t A ((tS tx) x1.toNatClampNeg)) hCF gX6_readCommand_X6_fieldsOf rfl hd_X6_fieldsOf ⟨rfl, rfl, Nat.le_of_ble_eq_true rfl, Nat.le_of_ble_eq_true rfl⟩ hG hF hS rfl hl.1 rfl (Nat.le_of_ble_eq_true rfl) dX6_readCommand_33 ⟨Nat.le_refl _, Nat.le_refl _⟩ ?_
      refine lv_astore_n (lv' := [(2, .ref (t.2.2.1 (m_X6_fieldsOf ((tS tx) x1.toNatClampNeg)))), (0, .ref a0), (1, .int x1)]) hx hb dX6_readCommand_36 rfl hl (by decide) rfl (fun ls hl => ?_)
      refine lv_aload_n hx hb dX6_readCommand_37 rfl (lv_at hl 0 rfl) ?_
      refine rfK (C := RJ0) (wc := ([] : va_W)) (As := []) (rest := []) (c_sEmpty l D cy t A (m_X6_fieldsOf ((tS tx) x1.toNatClampNeg)) (fi_lt _)) hCF gX6_readCommand_J0_isEmpty_aae02 rfl hd_sEmpty ⟨rfl, rfl, Nat.le_of_ble_eq_true rfl, Nat.le_of_ble_eq_true rfl⟩ hG hF hS va_P_nil (vk_recv hF.2.2.1.1 (fi_lt _) hS) rfl hl.1 rfl (Nat.le_of_ble_eq_true rfl) dX6_readCommand_38 ⟨Nat.le_refl _, Nat.le_refl _⟩ ?_
      refine lv_if_eq (tgt := 46) hx hb dX6_readCommand_41 (by decide) (fun c_5 => ?_) (fun c_5 => ?_)
      · skip
        refine lv_iload_n hx hb dX6_readCommand_46 rfl (lv_at hl 2 rfl) ?_
        refine lv_iconst (v := (1 : Int32)) hx hb dX6_readCommand_47 (by decide) ?_
        refine lv_iadd hx hb dX6_readCommand_48 ?_
        refine lv_istore_n (lv' := [(3, .int (x1 + (1 : Int32))), (2, .ref (t.2.2.1 (m_X6_fieldsOf ((tS tx) x1.toNatClampNeg)))), (0, .ref a0), (1, .int x1)]) hx hb dX6_readCommand_49 rfl hl (by decide) rfl (fun ls hl => ?_)
        refine lv_iconst (v := (0 : Int32)) hx hb dX6_readCommand_50 (by decide) ?_
        refine lv_istore (lv' := [(4, .int (0 : Int32)), (3, .int (x1 + (1 : Int32))), (2, .ref (t.2.2.1 (m_X6_fieldsOf ((tS tx) x1.toNatClampNeg)))), (0, .ref a0), (1, .int x1)]) hx hb dX6_readCommand_51 hl (by decide) rfl (fun ls hl => ?_)
        exact L_53 100 (tC' (tE' tx x1) ((tS tx) x1.toNatClampNeg)) (x1 + (1 : Int32)) (0 : Int32) (by decide) hT (lp_init (M := 3) (sLen_le _ (fi_lt _)) (by decide)) (by rw [m_X6_readCommand, if_neg c_3, if_pos c_4, if_pos c_5]) H locs hP hD hS ls (lv_sub hl [3, 2, 1, 0] rfl)
      · skip
        refine lv_iconst (v := (-1 : Int32)) hx hb dX6_readCommand_44 (by decide) ?_
        exact mu_iret hx hb hr hlocks hP hS dX6_readCommand_45 (by rw [m_X6_readCommand, if_neg c_3, if_pos c_4, if_neg c_5]) (by rw [m_X6_readCommand, if_neg c_3, if_pos c_4, if_neg c_5])
    · skip
      refine lv_iconst (v := (-1 : Int32)) hx hb dX6_readCommand_17 (by decide) ?_
      exact mu_iret hx hb hr hlocks hP hS dX6_readCommand_18 (by rw [m_X6_readCommand, if_neg c_3, if_neg c_4]) (by rw [m_X6_readCommand, if_neg c_3, if_neg c_4])
theorem rc_LL (tx : TxT) (x1 : Int32) : ∀ (nF : Nat) (r : TxT) (a b : Int32), tL (m_X6_readCommand_L53 nF tx x1 r a b).2 = tL r := by
  intro nF
  induction nF with
  | zero => intro r a b; rfl
  | succ nF ih =>
    intro r a b
    rw [m_X6_readCommand_L53]
    repeat' split
    all_goals first
      | rfl
      | exact rn_L _ _ _
      | rw [ih, pt_L, rn_L]
theorem rc_L (tx : TxT) (x1 : Int32) : tL (m_X6_readCommand tx x1).2 = tL tx := by
  unfold m_X6_readCommand
  repeat' split
  all_goals first
    | rfl
    | exact rc_LL _ _ _ _ _ _
theorem rc_T {tx : TxT} {x1 : Int32} (h : iv 0 120 (tL tx)) : iv 0 120 (tL (m_X6_readCommand tx x1).2) := by
  rw [rc_L]
  exact h
theorem fe_dec {r : TxT} {x : Int32} {n : Nat} (c1 : ¬ tL r ≤ x) (c2 : x < (m_X6_readCommand r x).1) (hm : ((tL r).toInt - x.toInt).toNat < n + 1) : ((tL (m_X6_readCommand r x).2).toInt - (m_X6_readCommand r x).1.toInt).toNat < n := by
  rw [rc_L]
  rw [i32_le] at c1
  rw [i32_lt] at c2
  omega
theorem fe_init {z : Int32} (h : iv 0 120 z) : (z.toInt - (1 : Int32).toInt).toNat < 1000 := by
  have := h.2
  rw [i32_1]
  omega
def m_X6_firstError_L22 : Nat → TxT → Int32 → Int32 × TxT
  | 0, r, _ => (0, r)
  | nF + 1, r, pa => if (tL r) ≤ pa then ((-1 : Int32), r) else if pa < (m_X6_readCommand r pa).1 then m_X6_firstError_L22 nF (m_X6_readCommand r pa).2 (m_X6_readCommand r pa).1 else (tE (m_X6_readCommand r pa).2, (m_X6_readCommand r pa).2)
def m_X6_firstError (tx : TxT) : Int32 × TxT := if (tL tx) = (0 : Int32) then ((0 : Int32), tx) else if ((tS tx) (0 : Int32).toNatClampNeg) = (85 : Int32) then m_X6_firstError_L22 1000 tx (1 : Int32) else ((0 : Int32), tx)
theorem hd_X6_firstError : yX6_firstError.cls = RX6 ∧ yX6_firstError.cls ≠ "java/lang/invoke/MethodHandle" ∧ yX6_firstError.cls ≠ "java/lang/invoke/VarHandle" ∧ (parseMethodDescriptor yX6_firstError.desc).map (fun d => d.parameters.length) = some 0 := by decide +kernel
set_option maxHeartbeats 8000000 in
set_option maxRecDepth 20000 in
theorem c_X6_firstError (l : Launch) (D : va_G) (cy : Nat → ClassId) (t : FxA) (a0 a1 : Nat) (tx : TxT) (hT : iv 0 120 (tL tx)) : MUf l D cy t yX6_firstError wsX6_firstError ({ frames := 5, cells := 0, slots := 0, locals := 111 } : Room) (wTx cy a0 a1 tx) (wTx cy a0 a1 (m_X6_firstError tx).2) [.ref a0] (m_X6_firstError tx).1 := by
  refine MUf.body (by decide) rfl (Nat.le_of_ble_eq_true rfl) ?_
  intro p e s m below meth c hx hb hml hr hts hown hlocks hP hG ls hl A hD hA hS hF
  have hl : lv_has ls 3 [(0, .ref a0)] := hl
  have hCF : CallFix p m c cX6_firstError 3 s ([.ref a0] : List Value).toArray wsX6_firstError RX6 := ⟨hx, hb, hml, hown, hts⟩
  have in_X6 : ∀ w ∈ u_ws RX6 TX6 7, w ∈ wsX6_firstError := fun _ h => List.mem_cons_of_mem _ (List.mem_append_right _ h)
  have k_0 := hts (Cond.fieldLink RX6 15 "SparePool$Text" "length" "I") (List.mem_of_getElem? (i := 1) rfl)
  have k_1 := hts (Cond.fieldLink RX6 23 "SparePool$Text" "error" "I") (List.mem_of_getElem? (i := 3) rfl)
  have k_2 := hts (Cond.fieldLink RX6 9 "SparePool$Text" "signs" "[I") (List.mem_of_getElem? (i := 2) rfl)
  have hP : va_P D vwCl (wTx cy a0 a1 tx) s.heap := hP
  have L_22 : ∀ (nF : Nat) (r : TxT) (pa : Int32), iv 0 120 (tL r) → ((tL r).toInt - pa.toInt).toNat < nF → m_X6_firstError_L22 nF r pa = (m_X6_firstError tx) → ∀ (H : Heap) (locs : List Loc), va_P D vwCl (wTx cy a0 a1 r) H → va_D A (wTx cy a0 a1 r) → va_S A s.heap H locs → ∀ ls : Array Slot, lv_has ls 3 [(0, .ref a0), (1, .int pa)] → W p l e ({ frames := 5, cells := 0, slots := 0, locals := 111 } : Room) s m ([.ref a0] : List Value).toArray below meth c H locs 0 0 (MQ below (va_Qi (fun v_ (_ : Unit) => v_ = (m_X6_firstError tx).1) (fun _ t => va_P D vwCl (wTx cy a0 a1 (m_X6_firstError tx).2) t.heap) A) ([.ref a0] : List Value).toArray s 0 0 A) (F0 m 22 ls []) := by
    intro nF
    induction nF with
    | zero => intro r pa hT hm; exact absurd hm (Nat.not_lt_zero _)
    | succ nF ih =>
      intro r pa hT hm hQ H locs hP hD hS ls hl
      refine lv_iload_n hx hb dX6_firstError_22 rfl (lv_at hl 1 rfl) ?_
      refine lv_aload_n hx hb dX6_firstError_23 rfl (lv_at hl 0 rfl) ?_
      refine va_get (D := D) (ci := 4) (v := .int (tL r)) (C := RX6) (T := TX6) (N := 7) hx hb hts in_X6 hown hG.1 hP 0 g_Tx_0 rfl 1 (by decide) k_0 (fun _ h9 => h9) rfl dX6_firstError_24 ?_
      refine lv_icmp_ge (tgt := 51) hx hb dX6_firstError_27 (by decide) (fun c_1 => ?_) (fun c_1 => ?_)
      · skip
        refine lv_iconst (v := (-1 : Int32)) hx hb dX6_firstError_51 (by decide) ?_
        exact mu_iret hx hb hr hlocks hP hS dX6_firstError_52 (by rw [← hQ, m_X6_firstError_L22, if_pos c_1]) (by rw [← hQ, m_X6_firstError_L22, if_pos c_1])
      · skip
        refine lv_aload_n hx hb dX6_firstError_30 rfl (lv_at hl 0 rfl) ?_
        refine lv_iload_n hx hb dX6_firstError_31 rfl (lv_at hl 1 rfl) ?_
        refine mufV (A0 := A) (wc := (wTx cy a0 a1 r)) (As := [.int pa]) (rest := []) (c_X6_readCommand l D cy t a0 a1 r pa hT) hCF gX6_firstError_X6_readCommand rfl hd_X6_readCommand ⟨rfl, rfl, Nat.le_of_ble_eq_true rfl, Nat.le_of_ble_eq_true rfl⟩ hG hF hS hP hD hA [0, 1] rfl c_Tx_Tx h_Tx (ci := 4) rfl rfl g_Tx_0 rfl hl.1 rfl (Nat.le_of_ble_eq_true rfl) dX6_firstError_32 ⟨Nat.le_refl _, Nat.le_refl _⟩ (fun H locs hP hD hS => ?_)
        have hP : va_P D vwCl (wTx cy a0 a1 (m_X6_readCommand r pa).2) H := va_P_eq hP r_Tx_Tx
        have hD : va_D A (wTx cy a0 a1 (m_X6_readCommand r pa).2) := va_D_eq hD r_Tx_Tx
        refine lv_istore_n (lv' := [(2, .int (m_X6_readCommand r pa).1), (0, .ref a0), (1, .int pa)]) hx hb dX6_firstError_35 rfl hl (by decide) rfl (fun ls hl => ?_)
        refine lv_iload_n hx hb dX6_firstError_36 rfl (lv_at hl 0 rfl) ?_
        refine lv_iload_n hx hb dX6_firstError_37 rfl (lv_at hl 2 rfl) ?_
        refine lv_icmp_gt (tgt := 46) hx hb dX6_firstError_38 (by decide) (fun c_2 => ?_) (fun c_2 => ?_)
        · skip
          refine lv_iload_n hx hb dX6_firstError_46 rfl (lv_at hl 0 rfl) ?_
          refine lv_istore_n (lv' := [(1, .int (m_X6_readCommand r pa).1), (2, .int (m_X6_readCommand r pa).1), (0, .ref a0)]) hx hb dX6_firstError_47 rfl hl (by decide) rfl (fun ls hl => ?_)
          refine lv_goto (tgt := 22) hx hb dX6_firstError_48 (by decide) ?_
          exact ih  (m_X6_readCommand r pa).2 (m_X6_readCommand r pa).1 (rc_T hT) (fe_dec c_1 c_2 hm) (by rw [← hQ, m_X6_firstError_L22, if_neg c_1, if_pos c_2]) H locs hP hD hS ls (lv_sub hl [2, 0] rfl)
        · skip
          refine lv_aload_n hx hb dX6_firstError_41 rfl (lv_at hl 1 rfl) ?_
          refine va_get (D := D) (ci := 4) (v := .int (tE (m_X6_readCommand r pa).2)) (C := RX6) (T := TX6) (N := 7) hx hb hts in_X6 hown hG.1 hP 0 g_Tx_0 rfl 6 (by decide) k_1 (fun _ h9 => h9) rfl dX6_firstError_42 ?_
          exact mu_iret hx hb hr hlocks hP hS dX6_firstError_45 (by rw [← hQ, m_X6_firstError_L22, if_neg c_1, if_neg c_2]) (by rw [← hQ, m_X6_firstError_L22, if_neg c_1, if_neg c_2])
  refine lv_aload_n hx hb dX6_firstError_0 rfl (lv_at hl 0 rfl) ?_
  refine va_get (D := D) (ci := 4) (v := .int (tL tx)) (C := RX6) (T := TX6) (N := 7) hx hb hts in_X6 hown hG.1 hP 0 g_Tx_0 rfl 1 (by decide) k_0 (fun _ h9 => h9) rfl dX6_firstError_1 ?_
  refine lv_if_eq (tgt := 18) hx hb dX6_firstError_4 (by decide) (fun c_3 => ?_) (fun c_3 => ?_)
  · skip
    refine lv_iconst (v := (0 : Int32)) hx hb dX6_firstError_18 (by decide) ?_
    exact mu_iret hx hb hr hlocks hP hS dX6_firstError_19 (by rw [m_X6_firstError, if_pos c_3]) (by rw [m_X6_firstError, if_pos c_3])
  · skip
    refine lv_aload_n hx hb dX6_firstError_7 rfl (lv_at hl 0 rfl) ?_
    refine va_get (D := D) (ci := 4) (v := .ref a1) (C := RX6) (T := TX6) (N := 7) hx hb hts in_X6 hown hG.1 hP 0 g_Tx_0 rfl 0 (by decide) k_2 (fun _ h9 => h9) rfl dX6_firstError_8 ?_
    refine lv_iconst (v := (0 : Int32)) hx hb dX6_firstError_11 (by decide) ?_
    refine va_iald hx hb hG.1 hP 1 0 (n := 120) (f := (tS tx)) g_Tx_1 rfl (bd_of (by decide) (by decide)) dX6_firstError_12 ?_
    refine lv_bipush (v := (85 : Int32)) hx hb dX6_firstError_13 (by decide) ?_
    refine lv_icmp_eq (tgt := 20) hx hb dX6_firstError_15 (by decide) (fun c_4 => ?_) (fun c_4 => ?_)
    · skip
      refine lv_iconst (v := (1 : Int32)) hx hb dX6_firstError_20 (by decide) ?_
      refine lv_istore_n (lv' := [(1, .int (1 : Int32)), (0, .ref a0)]) hx hb dX6_firstError_21 rfl hl (by decide) rfl (fun ls hl => ?_)
      exact L_22 1000 tx (1 : Int32) hT (fe_init hT) (by rw [m_X6_firstError, if_neg c_3, if_pos c_4]) s.heap [] hP hD hS ls (lv_sub hl [1, 0] rfl)
    · skip
      refine lv_iconst (v := (0 : Int32)) hx hb dX6_firstError_18 (by decide) ?_
      exact mu_iret hx hb hr hlocks hP hS dX6_firstError_19 (by rw [m_X6_firstError, if_neg c_3, if_neg c_4]) (by rw [m_X6_firstError, if_neg c_3, if_neg c_4])
