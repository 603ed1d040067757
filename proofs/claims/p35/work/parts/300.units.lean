def m_X8_isHolder (x1 : Int32) : Int32 := if x1 < (0 : Int32) then (0 : Int32) else if (5 : Int32) ≤ x1 then (0 : Int32) else (1 : Int32)
theorem hd_X8_isHolder : yX8_isHolder.cls = RX8 ∧ yX8_isHolder.cls ≠ "java/lang/invoke/MethodHandle" ∧ yX8_isHolder.cls ≠ "java/lang/invoke/VarHandle" ∧ (parseMethodDescriptor yX8_isHolder.desc).map (fun d => d.parameters.length) = some 1 := by decide +kernel
set_option maxHeartbeats 8000000 in
set_option maxRecDepth 20000 in
theorem c_X8_isHolder (l : Launch) (D : va_G) (cy : Nat → ClassId) (x1 : Int32) : RO l D cy yX8_isHolder wsX8_isHolder ({ frames := 0, cells := 0, slots := 0, locals := 0 } : Room) ([] : va_W) [.int x1] (m_X8_isHolder x1) := by
  refine RO.body (by decide) rfl (Nat.le_of_ble_eq_true rfl) ?_
  intro p e s m below meth c hx hb hml hr hts hown hlocks hP hG ls hl
  have hl : lv_has ls 1 [(0, .int x1)] := hl
  have hCF : CallFix p m c cX8_isHolder 1 s ([.int x1] : List Value).toArray wsX8_isHolder RX8 := ⟨hx, hb, hml, hown, hts⟩
  refine lv_iload_n hx hb dX8_isHolder_0 rfl (lv_at hl 0 rfl) ?_
  refine lv_if_lt (tgt := 13) hx hb dX8_isHolder_1 (by decide) (fun c_1 => ?_) (fun c_1 => ?_)
  · skip
    refine lv_iconst (v := (0 : Int32)) hx hb dX8_isHolder_13 (by decide) ?_
    exact ro_zret hx hb hr hlocks rfl dX8_isHolder_14 (by rw [m_X8_isHolder, if_pos c_1])
  · skip
    refine lv_iload_n hx hb dX8_isHolder_4 rfl (lv_at hl 0 rfl) ?_
    refine lv_iconst (v := (5 : Int32)) hx hb dX8_isHolder_5 (by decide) ?_
    refine lv_icmp_ge (tgt := 13) hx hb dX8_isHolder_6 (by decide) (fun c_2 => ?_) (fun c_2 => ?_)
    · skip
      refine lv_iconst (v := (0 : Int32)) hx hb dX8_isHolder_13 (by decide) ?_
      exact ro_zret hx hb hr hlocks rfl dX8_isHolder_14 (by rw [m_X8_isHolder, if_neg c_1, if_pos c_2])
    · skip
      refine lv_iconst (v := (1 : Int32)) hx hb dX8_isHolder_9 (by decide) ?_
      refine lv_goto (tgt := 14) hx hb dX8_isHolder_10 (by decide) ?_
      exact ro_zret hx hb hr hlocks rfl dX8_isHolder_14 (by rw [m_X8_isHolder, if_neg c_1, if_neg c_2])
theorem hs_isHolder {h : Int32} (c : ¬ m_X8_isHolder h = 0) : 0 ≤ h.toInt ∧ h.toInt < 5 := by
  unfold m_X8_isHolder at c
  split at c
  · exact absurd rfl c
  · rename_i h1
    split at c
    · exact absurd rfl c
    · rename_i h2
      rw [i32_lt, i32_0] at h1
      rw [i32_le] at h2
      have : (5 : Int32).toInt = 5 := by decide
      omega
theorem bd_isHolder {h : Int32} (c : ¬ m_X8_isHolder h = 0) : vp_in h 5 := bd_of (hs_isHolder c).1 (hs_isHolder c).2
def m_X8_isKind (x1 : Int32) : Int32 := if x1 < (0 : Int32) then (0 : Int32) else if (3 : Int32) ≤ x1 then (0 : Int32) else (1 : Int32)
theorem hd_X8_isKind : yX8_isKind.cls = RX8 ∧ yX8_isKind.cls ≠ "java/lang/invoke/MethodHandle" ∧ yX8_isKind.cls ≠ "java/lang/invoke/VarHandle" ∧ (parseMethodDescriptor yX8_isKind.desc).map (fun d => d.parameters.length) = some 1 := by decide +kernel
set_option maxHeartbeats 8000000 in
set_option maxRecDepth 20000 in
theorem c_X8_isKind (l : Launch) (D : va_G) (cy : Nat → ClassId) (x1 : Int32) : RO l D cy yX8_isKind wsX8_isKind ({ frames := 0, cells := 0, slots := 0, locals := 0 } : Room) ([] : va_W) [.int x1] (m_X8_isKind x1) := by
  refine RO.body (by decide) rfl (Nat.le_of_ble_eq_true rfl) ?_
  intro p e s m below meth c hx hb hml hr hts hown hlocks hP hG ls hl
  have hl : lv_has ls 1 [(0, .int x1)] := hl
  have hCF : CallFix p m c cX8_isKind 1 s ([.int x1] : List Value).toArray wsX8_isKind RX8 := ⟨hx, hb, hml, hown, hts⟩
  refine lv_iload_n hx hb dX8_isKind_0 rfl (lv_at hl 0 rfl) ?_
  refine lv_if_lt (tgt := 13) hx hb dX8_isKind_1 (by decide) (fun c_1 => ?_) (fun c_1 => ?_)
  · skip
    refine lv_iconst (v := (0 : Int32)) hx hb dX8_isKind_13 (by decide) ?_
    exact ro_zret hx hb hr hlocks rfl dX8_isKind_14 (by rw [m_X8_isKind, if_pos c_1])
  · skip
    refine lv_iload_n hx hb dX8_isKind_4 rfl (lv_at hl 0 rfl) ?_
    refine lv_iconst (v := (3 : Int32)) hx hb dX8_isKind_5 (by decide) ?_
    refine lv_icmp_ge (tgt := 13) hx hb dX8_isKind_6 (by decide) (fun c_2 => ?_) (fun c_2 => ?_)
    · skip
      refine lv_iconst (v := (0 : Int32)) hx hb dX8_isKind_13 (by decide) ?_
      exact ro_zret hx hb hr hlocks rfl dX8_isKind_14 (by rw [m_X8_isKind, if_neg c_1, if_pos c_2])
    · skip
      refine lv_iconst (v := (1 : Int32)) hx hb dX8_isKind_9 (by decide) ?_
      refine lv_goto (tgt := 14) hx hb dX8_isKind_10 (by decide) ?_
      exact ro_zret hx hb hr hlocks rfl dX8_isKind_14 (by rw [m_X8_isKind, if_neg c_1, if_neg c_2])
theorem hs_isKind {h : Int32} (c : ¬ m_X8_isKind h = 0) : 0 ≤ h.toInt ∧ h.toInt < 3 := by
  unfold m_X8_isKind at c
  split at c
  · exact absurd rfl c
  · rename_i h1
    split at c
    · exact absurd rfl c
    · rename_i h2
      rw [i32_lt, i32_0] at h1
      rw [i32_le] at h2
      have : (3 : Int32).toInt = 3 := by decide
      omega
theorem bd_isKind {h : Int32} (c : ¬ m_X8_isKind h = 0) : vp_in h 3 := bd_of (hs_isKind c).1 (hs_isKind c).2
def m_X8_isPart (x1 : Int32) : Int32 := if x1 < (0 : Int32) then (0 : Int32) else if (3 : Int32) ≤ x1 then (0 : Int32) else (1 : Int32)
theorem hd_X8_isPart : yX8_isPart.cls = RX8 ∧ yX8_isPart.cls ≠ "java/lang/invoke/MethodHandle" ∧ yX8_isPart.cls ≠ "java/lang/invoke/VarHandle" ∧ (parseMethodDescriptor yX8_isPart.desc).map (fun d => d.parameters.length) = some 1 := by decide +kernel
set_option maxHeartbeats 8000000 in
set_option maxRecDepth 20000 in
theorem c_X8_isPart (l : Launch) (D : va_G) (cy : Nat → ClassId) (x1 : Int32) : RO l D cy yX8_isPart wsX8_isPart ({ frames := 0, cells := 0, slots := 0, locals := 0 } : Room) ([] : va_W) [.int x1] (m_X8_isPart x1) := by
  refine RO.body (by decide) rfl (Nat.le_of_ble_eq_true rfl) ?_
  intro p e s m below meth c hx hb hml hr hts hown hlocks hP hG ls hl
  have hl : lv_has ls 1 [(0, .int x1)] := hl
  have hCF : CallFix p m c cX8_isPart 1 s ([.int x1] : List Value).toArray wsX8_isPart RX8 := ⟨hx, hb, hml, hown, hts⟩
  refine lv_iload_n hx hb dX8_isPart_0 rfl (lv_at hl 0 rfl) ?_
  refine lv_if_lt (tgt := 13) hx hb dX8_isPart_1 (by decide) (fun c_1 => ?_) (fun c_1 => ?_)
  · skip
    refine lv_iconst (v := (0 : Int32)) hx hb dX8_isPart_13 (by decide) ?_
    exact ro_zret hx hb hr hlocks rfl dX8_isPart_14 (by rw [m_X8_isPart, if_pos c_1])
  · skip
    refine lv_iload_n hx hb dX8_isPart_4 rfl (lv_at hl 0 rfl) ?_
    refine lv_iconst (v := (3 : Int32)) hx hb dX8_isPart_5 (by decide) ?_
    refine lv_icmp_ge (tgt := 13) hx hb dX8_isPart_6 (by decide) (fun c_2 => ?_) (fun c_2 => ?_)
    · skip
      refine lv_iconst (v := (0 : Int32)) hx hb dX8_isPart_13 (by decide) ?_
      exact ro_zret hx hb hr hlocks rfl dX8_isPart_14 (by rw [m_X8_isPart, if_neg c_1, if_pos c_2])
    · skip
      refine lv_iconst (v := (1 : Int32)) hx hb dX8_isPart_9 (by decide) ?_
      refine lv_goto (tgt := 14) hx hb dX8_isPart_10 (by decide) ?_
      exact ro_zret hx hb hr hlocks rfl dX8_isPart_14 (by rw [m_X8_isPart, if_neg c_1, if_neg c_2])
theorem hs_isPart {h : Int32} (c : ¬ m_X8_isPart h = 0) : 0 ≤ h.toInt ∧ h.toInt < 3 := by
  unfold m_X8_isPart at c
  split at c
  · exact absurd rfl c
  · rename_i h1
    split at c
    · exact absurd rfl c
    · rename_i h2
      rw [i32_lt, i32_0] at h1
      rw [i32_le] at h2
      have : (3 : Int32).toInt = 3 := by decide
      omega
theorem bd_isPart {h : Int32} (c : ¬ m_X8_isPart h = 0) : vp_in h 3 := bd_of (hs_isPart c).1 (hs_isPart c).2
def m_X8_isSetting (x1 : Int32) : Int32 := if x1 < (0 : Int32) then (0 : Int32) else if (3 : Int32) ≤ x1 then (0 : Int32) else (1 : Int32)
theorem hd_X8_isSetting : yX8_isSetting.cls = RX8 ∧ yX8_isSetting.cls ≠ "java/lang/invoke/MethodHandle" ∧ yX8_isSetting.cls ≠ "java/lang/invoke/VarHandle" ∧ (parseMethodDescriptor yX8_isSetting.desc).map (fun d => d.parameters.length) = some 1 := by decide +kernel
set_option maxHeartbeats 8000000 in
set_option maxRecDepth 20000 in
theorem c_X8_isSetting (l : Launch) (D : va_G) (cy : Nat → ClassId) (x1 : Int32) : RO l D cy yX8_isSetting wsX8_isSetting ({ frames := 0, cells := 0, slots := 0, locals := 0 } : Room) ([] : va_W) [.int x1] (m_X8_isSetting x1) := by
  refine RO.body (by decide) rfl (Nat.le_of_ble_eq_true rfl) ?_
  intro p e s m below meth c hx hb hml hr hts hown hlocks hP hG ls hl
  have hl : lv_has ls 1 [(0, .int x1)] := hl
  have hCF : CallFix p m c cX8_isSetting 1 s ([.int x1] : List Value).toArray wsX8_isSetting RX8 := ⟨hx, hb, hml, hown, hts⟩
  refine lv_iload_n hx hb dX8_isSetting_0 rfl (lv_at hl 0 rfl) ?_
  refine lv_if_lt (tgt := 13) hx hb dX8_isSetting_1 (by decide) (fun c_1 => ?_) (fun c_1 => ?_)
  · skip
    refine lv_iconst (v := (0 : Int32)) hx hb dX8_isSetting_13 (by decide) ?_
    exact ro_zret hx hb hr hlocks rfl dX8_isSetting_14 (by rw [m_X8_isSetting, if_pos c_1])
  · skip
    refine lv_iload_n hx hb dX8_isSetting_4 rfl (lv_at hl 0 rfl) ?_
    refine lv_iconst (v := (3 : Int32)) hx hb dX8_isSetting_5 (by decide) ?_
    refine lv_icmp_ge (tgt := 13) hx hb dX8_isSetting_6 (by decide) (fun c_2 => ?_) (fun c_2 => ?_)
    · skip
      refine lv_iconst (v := (0 : Int32)) hx hb dX8_isSetting_13 (by decide) ?_
      exact ro_zret hx hb hr hlocks rfl dX8_isSetting_14 (by rw [m_X8_isSetting, if_neg c_1, if_pos c_2])
    · skip
      refine lv_iconst (v := (1 : Int32)) hx hb dX8_isSetting_9 (by decide) ?_
      refine lv_goto (tgt := 14) hx hb dX8_isSetting_10 (by decide) ?_
      exact ro_zret hx hb hr hlocks rfl dX8_isSetting_14 (by rw [m_X8_isSetting, if_neg c_1, if_neg c_2])
theorem hs_isSetting {h : Int32} (c : ¬ m_X8_isSetting h = 0) : 0 ≤ h.toInt ∧ h.toInt < 3 := by
  unfold m_X8_isSetting at c
  split at c
  · exact absurd rfl c
  · rename_i h1
    split at c
    · exact absurd rfl c
    · rename_i h2
      rw [i32_lt, i32_0] at h1
      rw [i32_le] at h2
      have : (3 : Int32).toInt = 3 := by decide
      omega
theorem bd_isSetting {h : Int32} (c : ¬ m_X8_isSetting h = 0) : vp_in h 3 := bd_of (hs_isSetting c).1 (hs_isSetting c).2
def m_X8_isSlot (x1 : Int32) : Int32 := if x1 < (0 : Int32) then (0 : Int32) else if (2 : Int32) ≤ x1 then (0 : Int32) else (1 : Int32)
theorem hd_X8_isSlot : yX8_isSlot.cls = RX8 ∧ yX8_isSlot.cls ≠ "java/lang/invoke/MethodHandle" ∧ yX8_isSlot.cls ≠ "java/lang/invoke/VarHandle" ∧ (parseMethodDescriptor yX8_isSlot.desc).map (fun d => d.parameters.length) = some 1 := by decide +kernel
set_option maxHeartbeats 8000000 in
set_option maxRecDepth 20000 in
theorem c_X8_isSlot (l : Launch) (D : va_G) (cy : Nat → ClassId) (x1 : Int32) : RO l D cy yX8_isSlot wsX8_isSlot ({ frames := 0, cells := 0, slots := 0, locals := 0 } : Room) ([] : va_W) [.int x1] (m_X8_isSlot x1) := by
  refine RO.body (by decide) rfl (Nat.le_of_ble_eq_true rfl) ?_
  intro p e s m below meth c hx hb hml hr hts hown hlocks hP hG ls hl
  have hl : lv_has ls 1 [(0, .int x1)] := hl
  have hCF : CallFix p m c cX8_isSlot 1 s ([.int x1] : List Value).toArray wsX8_isSlot RX8 := ⟨hx, hb, hml, hown, hts⟩
  refine lv_iload_n hx hb dX8_isSlot_0 rfl (lv_at hl 0 rfl) ?_
  refine lv_if_lt (tgt := 13) hx hb dX8_isSlot_1 (by decide) (fun c_1 => ?_) (fun c_1 => ?_)
  · skip
    refine lv_iconst (v := (0 : Int32)) hx hb dX8_isSlot_13 (by decide) ?_
    exact ro_zret hx hb hr hlocks rfl dX8_isSlot_14 (by rw [m_X8_isSlot, if_pos c_1])
  · skip
    refine lv_iload_n hx hb dX8_isSlot_4 rfl (lv_at hl 0 rfl) ?_
    refine lv_iconst (v := (2 : Int32)) hx hb dX8_isSlot_5 (by decide) ?_
    refine lv_icmp_ge (tgt := 13) hx hb dX8_isSlot_6 (by decide) (fun c_2 => ?_) (fun c_2 => ?_)
    · skip
      refine lv_iconst (v := (0 : Int32)) hx hb dX8_isSlot_13 (by decide) ?_
      exact ro_zret hx hb hr hlocks rfl dX8_isSlot_14 (by rw [m_X8_isSlot, if_neg c_1, if_pos c_2])
    · skip
      refine lv_iconst (v := (1 : Int32)) hx hb dX8_isSlot_9 (by decide) ?_
      refine lv_goto (tgt := 14) hx hb dX8_isSlot_10 (by decide) ?_
      exact ro_zret hx hb hr hlocks rfl dX8_isSlot_14 (by rw [m_X8_isSlot, if_neg c_1, if_neg c_2])
theorem hs_isSlot {h : Int32} (c : ¬ m_X8_isSlot h = 0) : 0 ≤ h.toInt ∧ h.toInt < 2 := by
  unfold m_X8_isSlot at c
  split at c
  · exact absurd rfl c
  · rename_i h1
    split at c
    · exact absurd rfl c
    · rename_i h2
      rw [i32_lt, i32_0] at h1
      rw [i32_le] at h2
      have : (2 : Int32).toInt = 2 := by decide
      omega
theorem bd_isSlot {h : Int32} (c : ¬ m_X8_isSlot h = 0) : vp_in h 2 := bd_of (hs_isSlot c).1 (hs_isSlot c).2
def m_X8_isTerm (x1 : Int32) : Int32 := if x1 < (1 : Int32) then (0 : Int32) else if (30 : Int32) < x1 then (0 : Int32) else (1 : Int32)
theorem hd_X8_isTerm : yX8_isTerm.cls = RX8 ∧ yX8_isTerm.cls ≠ "java/lang/invoke/MethodHandle" ∧ yX8_isTerm.cls ≠ "java/lang/invoke/VarHandle" ∧ (parseMethodDescriptor yX8_isTerm.desc).map (fun d => d.parameters.length) = some 1 := by decide +kernel
set_option maxHeartbeats 8000000 in
set_option maxRecDepth 20000 in
theorem c_X8_isTerm (l : Launch) (D : va_G) (cy : Nat → ClassId) (x1 : Int32) : RO l D cy yX8_isTerm wsX8_isTerm ({ frames := 0, cells := 0, slots := 0, locals := 0 } : Room) ([] : va_W) [.int x1] (m_X8_isTerm x1) := by
  refine RO.body (by decide) rfl (Nat.le_of_ble_eq_true rfl) ?_
  intro p e s m below meth c hx hb hml hr hts hown hlocks hP hG ls hl
  have hl : lv_has ls 1 [(0, .int x1)] := hl
  have hCF : CallFix p m c cX8_isTerm 1 s ([.int x1] : List Value).toArray wsX8_isTerm RX8 := ⟨hx, hb, hml, hown, hts⟩
  refine lv_iload_n hx hb dX8_isTerm_0 rfl (lv_at hl 0 rfl) ?_
  refine lv_iconst (v := (1 : Int32)) hx hb dX8_isTerm_1 (by decide) ?_
  refine lv_icmp_lt (tgt := 15) hx hb dX8_isTerm_2 (by decide) (fun c_1 => ?_) (fun c_1 => ?_)
  · skip
    refine lv_iconst (v := (0 : Int32)) hx hb dX8_isTerm_15 (by decide) ?_
    exact ro_zret hx hb hr hlocks rfl dX8_isTerm_16 (by rw [m_X8_isTerm, if_pos c_1])
  · skip
    refine lv_iload_n hx hb dX8_isTerm_5 rfl (lv_at hl 0 rfl) ?_
    refine lv_bipush (v := (30 : Int32)) hx hb dX8_isTerm_6 (by decide) ?_
    refine lv_icmp_gt (tgt := 15) hx hb dX8_isTerm_8 (by decide) (fun c_2 => ?_) (fun c_2 => ?_)
    · skip
      refine lv_iconst (v := (0 : Int32)) hx hb dX8_isTerm_15 (by decide) ?_
      exact ro_zret hx hb hr hlocks rfl dX8_isTerm_16 (by rw [m_X8_isTerm, if_neg c_1, if_pos c_2])
    · skip
      refine lv_iconst (v := (1 : Int32)) hx hb dX8_isTerm_11 (by decide) ?_
      refine lv_goto (tgt := 16) hx hb dX8_isTerm_12 (by decide) ?_
      exact ro_zret hx hb hr hlocks rfl dX8_isTerm_16 (by rw [m_X8_isTerm, if_neg c_1, if_neg c_2])
def m_bitCount (x1 : Int32) : Int32 := (((((((x1 - ((x1.toUInt32 >>> ((1 : Int32).toUInt32 &&& Int32.toUInt32 31)).toInt32 &&& (1431655765 : Int32))) &&& (858993459 : Int32)) + (((x1 - ((x1.toUInt32 >>> ((1 : Int32).toUInt32 &&& Int32.toUInt32 31)).toInt32 &&& (1431655765 : Int32))).toUInt32 >>> ((2 : Int32).toUInt32 &&& Int32.toUInt32 31)).toInt32 &&& (858993459 : Int32))) + ((((x1 - ((x1.toUInt32 >>> ((1 : Int32).toUInt32 &&& Int32.toUInt32 31)).toInt32 &&& (1431655765 : Int32))) &&& (858993459 : Int32)) + (((x1 - ((x1.toUInt32 >>> ((1 : Int32).toUInt32 &&& Int32.toUInt32 31)).toInt32 &&& (1431655765 : Int32))).toUInt32 >>> ((2 : Int32).toUInt32 &&& Int32.toUInt32 31)).toInt32 &&& (858993459 : Int32))).toUInt32 >>> ((4 : Int32).toUInt32 &&& Int32.toUInt32 31)).toInt32) &&& (252645135 : Int32)) + ((((((x1 - ((x1.toUInt32 >>> ((1 : Int32).toUInt32 &&& Int32.toUInt32 31)).toInt32 &&& (1431655765 : Int32))) &&& (858993459 : Int32)) + (((x1 - ((x1.toUInt32 >>> ((1 : Int32).toUInt32 &&& Int32.toUInt32 31)).toInt32 &&& (1431655765 : Int32))).toUInt32 >>> ((2 : Int32).toUInt32 &&& Int32.toUInt32 31)).toInt32 &&& (858993459 : Int32))) + ((((x1 - ((x1.toUInt32 >>> ((1 : Int32).toUInt32 &&& Int32.toUInt32 31)).toInt32 &&& (1431655765 : Int32))) &&& (858993459 : Int32)) + (((x1 - ((x1.toUInt32 >>> ((1 : Int32).toUInt32 &&& Int32.toUInt32 31)).toInt32 &&& (1431655765 : Int32))).toUInt32 >>> ((2 : Int32).toUInt32 &&& Int32.toUInt32 31)).toInt32 &&& (858993459 : Int32))).toUInt32 >>> ((4 : Int32).toUInt32 &&& Int32.toUInt32 31)).toInt32) &&& (252645135 : Int32)).toUInt32 >>> ((8 : Int32).toUInt32 &&& Int32.toUInt32 31)).toInt32) + (((((((x1 - ((x1.toUInt32 >>> ((1 : Int32).toUInt32 &&& Int32.toUInt32 31)).toInt32 &&& (1431655765 : Int32))) &&& (858993459 : Int32)) + (((x1 - ((x1.toUInt32 >>> ((1 : Int32).toUInt32 &&& Int32.toUInt32 31)).toInt32 &&& (1431655765 : Int32))).toUInt32 >>> ((2 : Int32).toUInt32 &&& Int32.toUInt32 31)).toInt32 &&& (858993459 : Int32))) + ((((x1 - ((x1.toUInt32 >>> ((1 : Int32).toUInt32 &&& Int32.toUInt32 31)).toInt32 &&& (1431655765 : Int32))) &&& (858993459 : Int32)) + (((x1 - ((x1.toUInt32 >>> ((1 : Int32).toUInt32 &&& Int32.toUInt32 31)).toInt32 &&& (1431655765 : Int32))).toUInt32 >>> ((2 : Int32).toUInt32 &&& Int32.toUInt32 31)).toInt32 &&& (858993459 : Int32))).toUInt32 >>> ((4 : Int32).toUInt32 &&& Int32.toUInt32 31)).toInt32) &&& (252645135 : Int32)) + ((((((x1 - ((x1.toUInt32 >>> ((1 : Int32).toUInt32 &&& Int32.toUInt32 31)).toInt32 &&& (1431655765 : Int32))) &&& (858993459 : Int32)) + (((x1 - ((x1.toUInt32 >>> ((1 : Int32).toUInt32 &&& Int32.toUInt32 31)).toInt32 &&& (1431655765 : Int32))).toUInt32 >>> ((2 : Int32).toUInt32 &&& Int32.toUInt32 31)).toInt32 &&& (858993459 : Int32))) + ((((x1 - ((x1.toUInt32 >>> ((1 : Int32).toUInt32 &&& Int32.toUInt32 31)).toInt32 &&& (1431655765 : Int32))) &&& (858993459 : Int32)) + (((x1 - ((x1.toUInt32 >>> ((1 : Int32).toUInt32 &&& Int32.toUInt32 31)).toInt32 &&& (1431655765 : Int32))).toUInt32 >>> ((2 : Int32).toUInt32 &&& Int32.toUInt32 31)).toInt32 &&& (858993459 : Int32))).toUInt32 >>> ((4 : Int32).toUInt32 &&& Int32.toUInt32 31)).toInt32) &&& (252645135 : Int32)).toUInt32 >>> ((8 : Int32).toUInt32 &&& Int32.toUInt32 31)).toInt32).toUInt32 >>> ((16 : Int32).toUInt32 &&& Int32.toUInt32 31)).toInt32) &&& (63 : Int32)
theorem hd_bitCount : yJ6_bitCount_0f7a4.cls ≠ "java/lang/invoke/MethodHandle" ∧ yJ6_bitCount_0f7a4.cls ≠ "java/lang/invoke/VarHandle" ∧ (parseMethodDescriptor yJ6_bitCount_0f7a4.desc).map (fun d => d.parameters.length) = some 1 := by decide +kernel
set_option maxHeartbeats 8000000 in
set_option maxRecDepth 20000 in
theorem c_bitCount (l : Launch) (D : va_G) (cy : Nat → ClassId) (x1 : Int32) : RO l D cy yJ6_bitCount_0f7a4 wsJ6_bitCount_0f7a4 ({ frames := 0, cells := 0, slots := 0, locals := 0 } : Room) ([] : va_W) [.int x1] (m_bitCount x1) := by
  refine RO.body (by decide) rfl (Nat.le_of_ble_eq_true rfl) ?_
  intro p e s m below meth c hx hb hml hr hts hown hlocks hP hG ls hl
  have hl : lv_has ls 1 [(0, .int x1)] := hl
  have hCF : CallFix p m c cJ6_bitCount_0f7a4 1 s ([.int x1] : List Value).toArray wsJ6_bitCount_0f7a4 RJ6 := ⟨hx, hb, hml, hown, hts⟩
  have k_0 := hts (Cond.constant RJ6 265 (1431655765)) (List.mem_of_getElem? (i := 1) rfl)
  have k_1 := hts (Cond.constant RJ6 266 (858993459)) (List.mem_of_getElem? (i := 2) rfl)
  have k_2 := hts (Cond.constant RJ6 267 (252645135)) (List.mem_of_getElem? (i := 3) rfl)
  refine lv_iload_n hx hb dJ6_bitCount_0f7a4_0 rfl (lv_at hl 0 rfl) ?_
  refine lv_iload_n hx hb dJ6_bitCount_0f7a4_1 rfl (lv_at hl 0 rfl) ?_
  refine lv_iconst (v := (1 : Int32)) hx hb dJ6_bitCount_0f7a4_2 (by decide) ?_
  refine lv_iushr hx hb dJ6_bitCount_0f7a4_3 rfl ?_
  refine lv_ldcw (v := (1431655765 : Int32)) hx hb hown k_0 dJ6_bitCount_0f7a4_4 ?_
  refine lv_iand hx hb dJ6_bitCount_0f7a4_7 ?_
  refine lv_isub hx hb dJ6_bitCount_0f7a4_8 ?_
  refine lv_istore_n (lv' := [(0, .int (x1 - ((x1.toUInt32 >>> ((1 : Int32).toUInt32 &&& Int32.toUInt32 31)).toInt32 &&& (1431655765 : Int32))))]) hx hb dJ6_bitCount_0f7a4_9 rfl hl (by decide) rfl (fun ls hl => ?_)
  refine lv_iload_n hx hb dJ6_bitCount_0f7a4_10 rfl (lv_at hl 0 rfl) ?_
  refine lv_ldcw (v := (858993459 : Int32)) hx hb hown k_1 dJ6_bitCount_0f7a4_11 ?_
  refine lv_iand hx hb dJ6_bitCount_0f7a4_14 ?_
  refine lv_iload_n hx hb dJ6_bitCount_0f7a4_15 rfl (lv_at hl 0 rfl) ?_
  refine lv_iconst (v := (2 : Int32)) hx hb dJ6_bitCount_0f7a4_16 (by decide) ?_
  refine lv_iushr hx hb dJ6_bitCount_0f7a4_17 rfl ?_
  refine lv_ldcw (v := (858993459 : Int32)) hx hb hown k_1 dJ6_bitCount_0f7a4_18 ?_
  refine lv_iand hx hb dJ6_bitCount_0f7a4_21 ?_
  refine lv_iadd hx hb dJ6_bitCount_0f7a4_22 ?_
  refine lv_istore_n (lv' := [(0, .int (((x1 - ((x1.toUInt32 >>> ((1 : Int32).toUInt32 &&& Int32.toUInt32 31)).toInt32 &&& (1431655765 : Int32))) &&& (858993459 : Int32)) + (((x1 - ((x1.toUInt32 >>> ((1 : Int32).toUInt32 &&& Int32.toUInt32 31)).toInt32 &&& (1431655765 : Int32))).toUInt32 >>> ((2 : Int32).toUInt32 &&& Int32.toUInt32 31)).toInt32 &&& (858993459 : Int32))))]) hx hb dJ6_bitCount_0f7a4_23 rfl hl (by decide) rfl (fun ls hl => ?_)
  refine lv_iload_n hx hb dJ6_bitCount_0f7a4_24 rfl (lv_at hl 0 rfl) ?_
  refine lv_iload_n hx hb dJ6_bitCount_0f7a4_25 rfl (lv_at hl 0 rfl) ?_
  refine lv_iconst (v := (4 : Int32)) hx hb dJ6_bitCount_0f7a4_26 (by decide) ?_
  refine lv_iushr hx hb dJ6_bitCount_0f7a4_27 rfl ?_
  refine lv_iadd hx hb dJ6_bitCount_0f7a4_28 ?_
  refine lv_ldcw (v := (252645135 : Int32)) hx hb hown k_2 dJ6_bitCount_0f7a4_29 ?_
  refine lv_iand hx hb dJ6_bitCount_0f7a4_32 ?_
  refine lv_istore_n (lv' := [(0, .int (((((x1 - ((x1.toUInt32 >>> ((1 : Int32).toUInt32 &&& Int32.toUInt32 31)).toInt32 &&& (1431655765 : Int32))) &&& (858993459 : Int32)) + (((x1 - ((x1.toUInt32 >>> ((1 : Int32).toUInt32 &&& Int32.toUInt32 31)).toInt32 &&& (1431655765 : Int32))).toUInt32 >>> ((2 : Int32).toUInt32 &&& Int32.toUInt32 31)).toInt32 &&& (858993459 : Int32))) + ((((x1 - ((x1.toUInt32 >>> ((1 : Int32).toUInt32 &&& Int32.toUInt32 31)).toInt32 &&& (1431655765 : Int32))) &&& (858993459 : Int32)) + (((x1 - ((x1.toUInt32 >>> ((1 : Int32).toUInt32 &&& Int32.toUInt32 31)).toInt32 &&& (1431655765 : Int32))).toUInt32 >>> ((2 : Int32).toUInt32 &&& Int32.toUInt32 31)).toInt32 &&& (858993459 : Int32))).toUInt32 >>> ((4 : Int32).toUInt32 &&& Int32.toUInt32 31)).toInt32) &&& (252645135 : Int32)))]) hx hb dJ6_bitCount_0f7a4_33 rfl hl (by decide) rfl (fun ls hl => ?_)
  refine lv_iload_n hx hb dJ6_bitCount_0f7a4_34 rfl (lv_at hl 0 rfl) ?_
  refine lv_iload_n hx hb dJ6_bitCount_0f7a4_35 rfl (lv_at hl 0 rfl) ?_
  refine lv_bipush (v := (8 : Int32)) hx hb dJ6_bitCount_0f7a4_36 (by decide) ?_
  refine lv_iushr hx hb dJ6_bitCount_0f7a4_38 rfl ?_
  refine lv_iadd hx hb dJ6_bitCount_0f7a4_39 ?_
  refine lv_istore_n (lv' := [(0, .int ((((((x1 - ((x1.toUInt32 >>> ((1 : Int32).toUInt32 &&& Int32.toUInt32 31)).toInt32 &&& (1431655765 : Int32))) &&& (858993459 : Int32)) + (((x1 - ((x1.toUInt32 >>> ((1 : Int32).toUInt32 &&& Int32.toUInt32 31)).toInt32 &&& (1431655765 : Int32))).toUInt32 >>> ((2 : Int32).toUInt32 &&& Int32.toUInt32 31)).toInt32 &&& (858993459 : Int32))) + ((((x1 - ((x1.toUInt32 >>> ((1 : Int32).toUInt32 &&& Int32.toUInt32 31)).toInt32 &&& (1431655765 : Int32))) &&& (858993459 : Int32)) + (((x1 - ((x1.toUInt32 >>> ((1 : Int32).toUInt32 &&& Int32.toUInt32 31)).toInt32 &&& (1431655765 : Int32))).toUInt32 >>> ((2 : Int32).toUInt32 &&& Int32.toUInt32 31)).toInt32 &&& (858993459 : Int32))).toUInt32 >>> ((4 : Int32).toUInt32 &&& Int32.toUInt32 31)).toInt32) &&& (252645135 : Int32)) + ((((((x1 - ((x1.toUInt32 >>> ((1 : Int32).toUInt32 &&& Int32.toUInt32 31)).toInt32 &&& (1431655765 : Int32))) &&& (858993459 : Int32)) + (((x1 - ((x1.toUInt32 >>> ((1 : Int32).toUInt32 &&& Int32.toUInt32 31)).toInt32 &&& (1431655765 : Int32))).toUInt32 >>> ((2 : Int32).toUInt32 &&& Int32.toUInt32 31)).toInt32 &&& (858993459 : Int32))) + ((((x1 - ((x1.toUInt32 >>> ((1 : Int32).toUInt32 &&& Int32.toUInt32 31)).toInt32 &&& (1431655765 : Int32))) &&& (858993459 : Int32)) + (((x1 - ((x1.toUInt32 >>> ((1 : Int32).toUInt32 &&& Int32.toUInt32 31)).toInt32 &&& (1431655765 : Int32))).toUInt32 >>> ((2 : Int32).toUInt32 &&& Int32.toUInt32 31)).toInt32 &&& (858993459 : Int32))).toUInt32 >>> ((4 : Int32).toUInt32 &&& Int32.toUInt32 31)).toInt32) &&& (252645135 : Int32)).toUInt32 >>> ((8 : Int32).toUInt32 &&& Int32.toUInt32 31)).toInt32))]) hx hb dJ6_bitCount_0f7a4_40 rfl hl (by decide) rfl (fun ls hl => ?_)
  refine lv_iload_n hx hb dJ6_bitCount_0f7a4_41 rfl (lv_at hl 0 rfl) ?_
  refine lv_iload_n hx hb dJ6_bitCount_0f7a4_42 rfl (lv_at hl 0 rfl) ?_
  refine lv_bipush (v := (16 : Int32)) hx hb dJ6_bitCount_0f7a4_43 (by decide) ?_
  refine lv_iushr hx hb dJ6_bitCount_0f7a4_45 rfl ?_
  refine lv_iadd hx hb dJ6_bitCount_0f7a4_46 ?_
  refine lv_istore_n (lv' := [(0, .int (((((((x1 - ((x1.toUInt32 >>> ((1 : Int32).toUInt32 &&& Int32.toUInt32 31)).toInt32 &&& (1431655765 : Int32))) &&& (858993459 : Int32)) + (((x1 - ((x1.toUInt32 >>> ((1 : Int32).toUInt32 &&& Int32.toUInt32 31)).toInt32 &&& (1431655765 : Int32))).toUInt32 >>> ((2 : Int32).toUInt32 &&& Int32.toUInt32 31)).toInt32 &&& (858993459 : Int32))) + ((((x1 - ((x1.toUInt32 >>> ((1 : Int32).toUInt32 &&& Int32.toUInt32 31)).toInt32 &&& (1431655765 : Int32))) &&& (858993459 : Int32)) + (((x1 - ((x1.toUInt32 >>> ((1 : Int32).toUInt32 &&& Int32.toUInt32 31)).toInt32 &&& (1431655765 : Int32))).toUInt32 >>> ((2 : Int32).toUInt32 &&& Int32.toUInt32 31)).toInt32 &&& (858993459 : Int32))).toUInt32 >>> ((4 : Int32).toUInt32 &&& Int32.toUInt32 31)).toInt32) &&& (252645135 : Int32)) + ((((((x1 - ((x1.toUInt32 >>> ((1 : Int32).toUInt32 &&& Int32.toUInt32 31)).toInt32 &&& (1431655765 : Int32))) &&& (858993459 : Int32)) + (((x1 - ((x1.toUInt32 >>> ((1 : Int32).toUInt32 &&& Int32.toUInt32 31)).toInt32 &&& (1431655765 : Int32))).toUInt32 >>> ((2 : Int32).toUInt32 &&& Int32.toUInt32 31)).toInt32 &&& (858993459 : Int32))) + ((((x1 - ((x1.toUInt32 >>> ((1 : Int32).toUInt32 &&& Int32.toUInt32 31)).toInt32 &&& (1431655765 : Int32))) &&& (858993459 : Int32)) + (((x1 - ((x1.toUInt32 >>> ((1 : Int32).toUInt32 &&& Int32.toUInt32 31)).toInt32 &&& (1431655765 : Int32))).toUInt32 >>> ((2 : Int32).toUInt32 &&& Int32.toUInt32 31)).toInt32 &&& (858993459 : Int32))).toUInt32 >>> ((4 : Int32).toUInt32 &&& Int32.toUInt32 31)).toInt32) &&& (252645135 : Int32)).toUInt32 >>> ((8 : Int32).toUInt32 &&& Int32.toUInt32 31)).toInt32) + (((((((x1 - ((x1.toUInt32 >>> ((1 : Int32).toUInt32 &&& Int32.toUInt32 31)).toInt32 &&& (1431655765 : Int32))) &&& (858993459 : Int32)) + (((x1 - ((x1.toUInt32 >>> ((1 : Int32).toUInt32 &&& Int32.toUInt32 31)).toInt32 &&& (1431655765 : Int32))).toUInt32 >>> ((2 : Int32).toUInt32 &&& Int32.toUInt32 31)).toInt32 &&& (858993459 : Int32))) + ((((x1 - ((x1.toUInt32 >>> ((1 : Int32).toUInt32 &&& Int32.toUInt32 31)).toInt32 &&& (1431655765 : Int32))) &&& (858993459 : Int32)) + (((x1 - ((x1.toUInt32 >>> ((1 : Int32).toUInt32 &&& Int32.toUInt32 31)).toInt32 &&& (1431655765 : Int32))).toUInt32 >>> ((2 : Int32).toUInt32 &&& Int32.toUInt32 31)).toInt32 &&& (858993459 : Int32))).toUInt32 >>> ((4 : Int32).toUInt32 &&& Int32.toUInt32 31)).toInt32) &&& (252645135 : Int32)) + ((((((x1 - ((x1.toUInt32 >>> ((1 : Int32).toUInt32 &&& Int32.toUInt32 31)).toInt32 &&& (1431655765 : Int32))) &&& (858993459 : Int32)) + (((x1 - ((x1.toUInt32 >>> ((1 : Int32).toUInt32 &&& Int32.toUInt32 31)).toInt32 &&& (1431655765 : Int32))).toUInt32 >>> ((2 : Int32).toUInt32 &&& Int32.toUInt32 31)).toInt32 &&& (858993459 : Int32))) + ((((x1 - ((x1.toUInt32 >>> ((1 : Int32).toUInt32 &&& Int32.toUInt32 31)).toInt32 &&& (1431655765 : Int32))) &&& (858993459 : Int32)) + (((x1 - ((x1.toUInt32 >>> ((1 : Int32).toUInt32 &&& Int32.toUInt32 31)).toInt32 &&& (1431655765 : Int32))).toUInt32 >>> ((2 : Int32).toUInt32 &&& Int32.toUInt32 31)).toInt32 &&& (858993459 : Int32))).toUInt32 >>> ((4 : Int32).toUInt32 &&& Int32.toUInt32 31)).toInt32) &&& (252645135 : Int32)).toUInt32 >>> ((8 : Int32).toUInt32 &&& Int32.toUInt32 31)).toInt32).toUInt32 >>> ((16 : Int32).toUInt32 &&& Int32.toUInt32 31)).toInt32))]) hx hb dJ6_bitCount_0f7a4_47 rfl hl (by decide) rfl (fun ls hl => ?_)
  refine lv_iload_n hx hb dJ6_bitCount_0f7a4_48 rfl (lv_at hl 0 rfl) ?_
  refine lv_bipush (v := (63 : Int32)) hx hb dJ6_bitCount_0f7a4_49 (by decide) ?_
  refine lv_iand hx hb dJ6_bitCount_0f7a4_51 ?_
  exact ro_iret hx hb hr hlocks dJ6_bitCount_0f7a4_52 (by rw [m_bitCount])
def m_X7_has (un : UnT) (x1 : Int32) : Int32 := if x1 < (0 : Int32) then (0 : Int32) else if (uN un) ≤ x1 then (0 : Int32) else (1 : Int32)
theorem hd_X7_has : yX7_has.cls = RX7 ∧ yX7_has.cls ≠ "java/lang/invoke/MethodHandle" ∧ yX7_has.cls ≠ "java/lang/invoke/VarHandle" ∧ (parseMethodDescriptor yX7_has.desc).map (fun d => d.parameters.length) = some 1 := by decide +kernel
set_option maxHeartbeats 8000000 in
set_option maxRecDepth 20000 in
theorem c_X7_has (l : Launch) (D : va_G) (cy : Nat → ClassId) (a0 a1 a2 a3 a4 a5 : Nat) (un : UnT) (x1 : Int32) (hOK : uOK un) : RO l D cy yX7_has wsX7_has ({ frames := 0, cells := 0, slots := 0, locals := 0 } : Room) (wUn cy a0 a1 a2 a3 a4 a5 un) [.ref a0, .int x1] (m_X7_has un x1) := by
  refine RO.body (by decide) rfl (Nat.le_of_ble_eq_true rfl) ?_
  intro p e s m below meth c hx hb hml hr hts hown hlocks hP hG ls hl
  have hl : lv_has ls 2 [(0, .ref a0), (1, .int x1)] := hl
  have hCF : CallFix p m c cX7_has 2 s ([.ref a0, .int x1] : List Value).toArray wsX7_has RX7 := ⟨hx, hb, hml, hown, hts⟩
  have in_X7 : ∀ w ∈ u_ws RX7 TX7 6, w ∈ wsX7_has := fun _ h => List.mem_cons_of_mem _ (List.mem_append_right _ h)
  have k_0 := hts (Cond.fieldLink RX7 33 "SparePool$Units" "count" "I") (List.mem_of_getElem? (i := 1) rfl)
  refine lv_iload_n hx hb dX7_has_0 rfl (lv_at hl 1 rfl) ?_
  refine lv_if_lt (tgt := 16) hx hb dX7_has_1 (by decide) (fun c_1 => ?_) (fun c_1 => ?_)
  · skip
    refine lv_iconst (v := (0 : Int32)) hx hb dX7_has_16 (by decide) ?_
    exact ro_zret hx hb hr hlocks rfl dX7_has_17 (by rw [m_X7_has, if_pos c_1])
  · skip
    refine lv_iload_n hx hb dX7_has_4 rfl (lv_at hl 1 rfl) ?_
    refine lv_aload_n hx hb dX7_has_5 rfl (lv_at hl 0 rfl) ?_
    refine va_get (D := D) (ci := 5) (v := .int (uN un)) (C := RX7) (T := TX7) (N := 6) hx hb hts in_X7 hown hG.1 hP 0 g_Un_0 rfl 5 (by decide) k_0 (fun _ h9 => h9) rfl dX7_has_6 ?_
    refine lv_icmp_ge (tgt := 16) hx hb dX7_has_9 (by decide) (fun c_2 => ?_) (fun c_2 => ?_)
    · skip
      refine lv_iconst (v := (0 : Int32)) hx hb dX7_has_16 (by decide) ?_
      exact ro_zret hx hb hr hlocks rfl dX7_has_17 (by rw [m_X7_has, if_neg c_1, if_pos c_2])
    · skip
      refine lv_iconst (v := (1 : Int32)) hx hb dX7_has_12 (by decide) ?_
      refine lv_goto (tgt := 17) hx hb dX7_has_13 (by decide) ?_
      exact ro_zret hx hb hr hlocks rfl dX7_has_17 (by rw [m_X7_has, if_neg c_1, if_neg c_2])
theorem hs_has {un : UnT} {u : Int32} (c : ¬ m_X7_has un u = 0) : 0 ≤ u.toInt ∧ u.toInt < (uN un).toInt := by
  unfold m_X7_has at c
  split at c
  · exact absurd rfl c
  · rename_i h1
    split at c
    · exact absurd rfl c
    · rename_i h2
      rw [i32_lt, i32_0] at h1
      rw [i32_le] at h2
      omega
theorem bd_has {un : UnT} {u : Int32} (h : uOK un) (c : ¬ m_X7_has un u = 0) : vp_in u 16 := bd_of (hs_has c).1 (by have := (hs_has c).2; have := h.2; omega)
def m_X7_isFree (un : UnT) (x1 : Int32) : Int32 := if (m_X7_has un x1) = (0 : Int32) then (0 : Int32) else if ((uP un) x1.toNatClampNeg) = ((uO un) x1.toNatClampNeg) then (1 : Int32) else (0 : Int32)
theorem hd_X7_isFree : yX7_isFree.cls = RX7 ∧ yX7_isFree.cls ≠ "java/lang/invoke/MethodHandle" ∧ yX7_isFree.cls ≠ "java/lang/invoke/VarHandle" ∧ (parseMethodDescriptor yX7_isFree.desc).map (fun d => d.parameters.length) = some 1 := by decide +kernel
set_option maxHeartbeats 8000000 in
set_option maxRecDepth 20000 in
theorem c_X7_isFree (l : Launch) (D : va_G) (cy : Nat → ClassId) (a0 a1 a2 a3 a4 a5 : Nat) (un : UnT) (x1 : Int32) (hOK : uOK un) : RO l D cy yX7_isFree wsX7_isFree ({ frames := 1, cells := 0, slots := 0, locals := 21 } : Room) (wUn cy a0 a1 a2 a3 a4 a5 un) [.ref a0, .int x1] (m_X7_isFree un x1) := by
  refine RO.body (by decide) rfl (Nat.le_of_ble_eq_true rfl) ?_
  intro p e s m below meth c hx hb hml hr hts hown hlocks hP hG ls hl
  have hl : lv_has ls 2 [(0, .ref a0), (1, .int x1)] := hl
  have hCF : CallFix p m c cX7_isFree 2 s ([.ref a0, .int x1] : List Value).toArray wsX7_isFree RX7 := ⟨hx, hb, hml, hown, hts⟩
  have in_X7 : ∀ w ∈ u_ws RX7 TX7 6, w ∈ wsX7_isFree := fun _ h => List.mem_cons_of_mem _ (List.mem_append_right _ h)
  have k_0 := hts (Cond.fieldLink RX7 18 "SparePool$Units" "place" "[I") (List.mem_of_getElem? (i := 1) rfl)
  have k_1 := hts (Cond.fieldLink RX7 15 "SparePool$Units" "owner" "[I") (List.mem_of_getElem? (i := 2) rfl)
  refine lv_aload_n hx hb dX7_isFree_0 rfl (lv_at hl 0 rfl) ?_
  refine lv_iload_n hx hb dX7_isFree_1 rfl (lv_at hl 1 rfl) ?_
  refine roV (wc := (wUn cy a0 a1 a2 a3 a4 a5 un)) (As := [.int x1]) (rest := []) (c_X7_has l D cy a0 a1 a2 a3 a4 a5 un x1 hOK) hCF gX7_isFree_X7_has rfl hd_X7_has ⟨rfl, rfl, Nat.le_of_ble_eq_true rfl, Nat.le_of_ble_eq_true rfl⟩ hG hP (ci := 5) rfl rfl g_Un_0 rfl hl.1 rfl (Nat.le_of_ble_eq_true rfl) dX7_isFree_2 ⟨Nat.le_refl _, Nat.le_refl _⟩ ?_
  refine lv_if_eq (tgt := 27) hx hb dX7_isFree_5 (by decide) (fun c_1 => ?_) (fun c_1 => ?_)
  · skip
    refine lv_iconst (v := (0 : Int32)) hx hb dX7_isFree_27 (by decide) ?_
    exact ro_zret hx hb hr hlocks rfl dX7_isFree_28 (by rw [m_X7_isFree, if_pos c_1])
  · skip
    refine lv_aload_n hx hb dX7_isFree_8 rfl (lv_at hl 0 rfl) ?_
    refine va_get (D := D) (ci := 5) (v := .ref a3) (C := RX7) (T := TX7) (N := 6) hx hb hts in_X7 hown hG.1 hP 0 g_Un_0 rfl 2 (by decide) k_0 (fun _ h9 => h9) rfl dX7_isFree_9 ?_
    refine lv_iload_n hx hb dX7_isFree_12 rfl (lv_at hl 1 rfl) ?_
    refine va_iald hx hb hG.1 hP 3 0 (n := 16) (f := (uP un)) g_Un_3 rfl (bd_has hOK c_1) dX7_isFree_13 ?_
    refine lv_aload_n hx hb dX7_isFree_14 rfl (lv_at hl 0 rfl) ?_
    refine va_get (D := D) (ci := 5) (v := .ref a2) (C := RX7) (T := TX7) (N := 6) hx hb hts in_X7 hown hG.1 hP 0 g_Un_0 rfl 1 (by decide) k_1 (fun _ h9 => h9) rfl dX7_isFree_15 ?_
    refine lv_iload_n hx hb dX7_isFree_18 rfl (lv_at hl 1 rfl) ?_
    refine va_iald hx hb hG.1 hP 2 0 (n := 16) (f := (uO un)) g_Un_2 rfl (bd_has hOK c_1) dX7_isFree_19 ?_
    refine lv_icmp_ne (tgt := 27) hx hb dX7_isFree_20 (by decide) (fun c_2 => ?_) (fun c_2 => ?_)
    · skip
      refine lv_iconst (v := (0 : Int32)) hx hb dX7_isFree_27 (by decide) ?_
      exact ro_zret hx hb hr hlocks rfl dX7_isFree_28 (by rw [m_X7_isFree, if_neg c_1, if_neg c_2])
    · skip
      refine lv_iconst (v := (1 : Int32)) hx hb dX7_isFree_23 (by decide) ?_
      refine lv_goto (tgt := 28) hx hb dX7_isFree_24 (by decide) ?_
      exact ro_zret hx hb hr hlocks rfl dX7_isFree_28 (by rw [m_X7_isFree, if_neg c_1, if_pos c_2])
theorem hs_isFree {un : UnT} {u : Int32} (c : ¬ m_X7_isFree un u = 0) : ¬ m_X7_has un u = 0 := fun e => c (by unfold m_X7_isFree; rw [if_pos e])
theorem bd_isFree {un : UnT} {u : Int32} (hu : uOK un) (c : ¬ m_X7_isFree un u = 0) : vp_in u 16 := bd_has hu (hs_isFree c)
def m_X7_isUsable (un : UnT) (x1 : Int32) : Int32 := if (m_X7_has un x1) = (0 : Int32) then (0 : Int32) else if ((uQ un) x1.toNatClampNeg) = (7 : Int32) then (1 : Int32) else (0 : Int32)
theorem hd_X7_isUsable : yX7_isUsable.cls = RX7 ∧ yX7_isUsable.cls ≠ "java/lang/invoke/MethodHandle" ∧ yX7_isUsable.cls ≠ "java/lang/invoke/VarHandle" ∧ (parseMethodDescriptor yX7_isUsable.desc).map (fun d => d.parameters.length) = some 1 := by decide +kernel
set_option maxHeartbeats 8000000 in
set_option maxRecDepth 20000 in
theorem c_X7_isUsable (l : Launch) (D : va_G) (cy : Nat → ClassId) (a0 a1 a2 a3 a4 a5 : Nat) (un : UnT) (x1 : Int32) (hOK : uOK un) : RO l D cy yX7_isUsable wsX7_isUsable ({ frames := 1, cells := 0, slots := 0, locals := 21 } : Room) (wUn cy a0 a1 a2 a3 a4 a5 un) [.ref a0, .int x1] (m_X7_isUsable un x1) := by
  refine RO.body (by decide) rfl (Nat.le_of_ble_eq_true rfl) ?_
  intro p e s m below meth c hx hb hml hr hts hown hlocks hP hG ls hl
  have hl : lv_has ls 2 [(0, .ref a0), (1, .int x1)] := hl
  have hCF : CallFix p m c cX7_isUsable 2 s ([.ref a0, .int x1] : List Value).toArray wsX7_isUsable RX7 := ⟨hx, hb, hml, hown, hts⟩
  have in_X7 : ∀ w ∈ u_ws RX7 TX7 6, w ∈ wsX7_isUsable := fun _ h => List.mem_cons_of_mem _ (List.mem_append_right _ h)
  have k_0 := hts (Cond.fieldLink RX7 21 "SparePool$Units" "parts" "[I") (List.mem_of_getElem? (i := 1) rfl)
  refine lv_aload_n hx hb dX7_isUsable_0 rfl (lv_at hl 0 rfl) ?_
  refine lv_iload_n hx hb dX7_isUsable_1 rfl (lv_at hl 1 rfl) ?_
  refine roV (wc := (wUn cy a0 a1 a2 a3 a4 a5 un)) (As := [.int x1]) (rest := []) (c_X7_has l D cy a0 a1 a2 a3 a4 a5 un x1 hOK) hCF gX7_isUsable_X7_has rfl hd_X7_has ⟨rfl, rfl, Nat.le_of_ble_eq_true rfl, Nat.le_of_ble_eq_true rfl⟩ hG hP (ci := 5) rfl rfl g_Un_0 rfl hl.1 rfl (Nat.le_of_ble_eq_true rfl) dX7_isUsable_2 ⟨Nat.le_refl _, Nat.le_refl _⟩ ?_
  refine lv_if_eq (tgt := 23) hx hb dX7_isUsable_5 (by decide) (fun c_1 => ?_) (fun c_1 => ?_)
  · skip
    refine lv_iconst (v := (0 : Int32)) hx hb dX7_isUsable_23 (by decide) ?_
    exact ro_zret hx hb hr hlocks rfl dX7_isUsable_24 (by rw [m_X7_isUsable, if_pos c_1])
  · skip
    refine lv_aload_n hx hb dX7_isUsable_8 rfl (lv_at hl 0 rfl) ?_
    refine va_get (D := D) (ci := 5) (v := .ref a4) (C := RX7) (T := TX7) (N := 6) hx hb hts in_X7 hown hG.1 hP 0 g_Un_0 rfl 3 (by decide) k_0 (fun _ h9 => h9) rfl dX7_isUsable_9 ?_
    refine lv_iload_n hx hb dX7_isUsable_12 rfl (lv_at hl 1 rfl) ?_
    refine va_iald hx hb hG.1 hP 4 0 (n := 16) (f := (uQ un)) g_Un_4 rfl (bd_has hOK c_1) dX7_isUsable_13 ?_
    refine lv_bipush (v := (7 : Int32)) hx hb dX7_isUsable_14 (by decide) ?_
    refine lv_icmp_ne (tgt := 23) hx hb dX7_isUsable_16 (by decide) (fun c_2 => ?_) (fun c_2 => ?_)
    · skip
      refine lv_iconst (v := (0 : Int32)) hx hb dX7_isUsable_23 (by decide) ?_
      exact ro_zret hx hb hr hlocks rfl dX7_isUsable_24 (by rw [m_X7_isUsable, if_neg c_1, if_neg c_2])
    · skip
      refine lv_iconst (v := (1 : Int32)) hx hb dX7_isUsable_19 (by decide) ?_
      refine lv_goto (tgt := 24) hx hb dX7_isUsable_20 (by decide) ?_
      exact ro_zret hx hb hr hlocks rfl dX7_isUsable_24 (by rw [m_X7_isUsable, if_neg c_1, if_pos c_2])
theorem hs_isUsable {un : UnT} {u : Int32} (c : ¬ m_X7_isUsable un u = 0) : ¬ m_X7_has un u = 0 := fun e => c (by unfold m_X7_isUsable; rw [if_pos e])
theorem bd_isUsable {un : UnT} {u : Int32} (hu : uOK un) (c : ¬ m_X7_isUsable un u = 0) : vp_in u 16 := bd_has hu (hs_isUsable c)
def m_X7_isFreeCore (un : UnT) (x1 : Int32) : Int32 := if (m_X7_isFree un x1) = (0 : Int32) then (0 : Int32) else if ((uO un) x1.toNatClampNeg) = (4 : Int32) then (0 : Int32) else (1 : Int32)
theorem hd_X7_isFreeCore : yX7_isFreeCore.cls = RX7 ∧ yX7_isFreeCore.cls ≠ "java/lang/invoke/MethodHandle" ∧ yX7_isFreeCore.cls ≠ "java/lang/invoke/VarHandle" ∧ (parseMethodDescriptor yX7_isFreeCore.desc).map (fun d => d.parameters.length) = some 1 := by decide +kernel
set_option maxHeartbeats 8000000 in
set_option maxRecDepth 20000 in
theorem c_X7_isFreeCore (l : Launch) (D : va_G) (cy : Nat → ClassId) (a0 a1 a2 a3 a4 a5 : Nat) (un : UnT) (x1 : Int32) (hOK : uOK un) : RO l D cy yX7_isFreeCore wsX7_isFreeCore ({ frames := 2, cells := 0, slots := 0, locals := 42 } : Room) (wUn cy a0 a1 a2 a3 a4 a5 un) [.ref a0, .int x1] (m_X7_isFreeCore un x1) := by
  refine RO.body (by decide) rfl (Nat.le_of_ble_eq_true rfl) ?_
  intro p e s m below meth c hx hb hml hr hts hown hlocks hP hG ls hl
  have hl : lv_has ls 2 [(0, .ref a0), (1, .int x1)] := hl
  have hCF : CallFix p m c cX7_isFreeCore 2 s ([.ref a0, .int x1] : List Value).toArray wsX7_isFreeCore RX7 := ⟨hx, hb, hml, hown, hts⟩
  have in_X7 : ∀ w ∈ u_ws RX7 TX7 6, w ∈ wsX7_isFreeCore := fun _ h => List.mem_cons_of_mem _ (List.mem_append_right _ h)
  have k_0 := hts (Cond.fieldLink RX7 15 "SparePool$Units" "owner" "[I") (List.mem_of_getElem? (i := 1) rfl)
  refine lv_aload_n hx hb dX7_isFreeCore_0 rfl (lv_at hl 0 rfl) ?_
  refine lv_iload_n hx hb dX7_isFreeCore_1 rfl (lv_at hl 1 rfl) ?_
  refine roV (wc := (wUn cy a0 a1 a2 a3 a4 a5 un)) (As := [.int x1]) (rest := []) (c_X7_isFree l D cy a0 a1 a2 a3 a4 a5 un x1 hOK) hCF gX7_isFreeCore_X7_isFree rfl hd_X7_isFree ⟨rfl, rfl, Nat.le_of_ble_eq_true rfl, Nat.le_of_ble_eq_true rfl⟩ hG hP (ci := 5) rfl rfl g_Un_0 rfl hl.1 rfl (Nat.le_of_ble_eq_true rfl) dX7_isFreeCore_2 ⟨Nat.le_refl _, Nat.le_refl _⟩ ?_
  refine lv_if_eq (tgt := 22) hx hb dX7_isFreeCore_5 (by decide) (fun c_1 => ?_) (fun c_1 => ?_)
  · skip
    refine lv_iconst (v := (0 : Int32)) hx hb dX7_isFreeCore_22 (by decide) ?_
    exact ro_zret hx hb hr hlocks rfl dX7_isFreeCore_23 (by rw [m_X7_isFreeCore, if_pos c_1])
  · skip
    refine lv_aload_n hx hb dX7_isFreeCore_8 rfl (lv_at hl 0 rfl) ?_
    refine va_get (D := D) (ci := 5) (v := .ref a2) (C := RX7) (T := TX7) (N := 6) hx hb hts in_X7 hown hG.1 hP 0 g_Un_0 rfl 1 (by decide) k_0 (fun _ h9 => h9) rfl dX7_isFreeCore_9 ?_
    refine lv_iload_n hx hb dX7_isFreeCore_12 rfl (lv_at hl 1 rfl) ?_
    refine va_iald hx hb hG.1 hP 2 0 (n := 16) (f := (uO un)) g_Un_2 rfl (bd_isFree hOK c_1) dX7_isFreeCore_13 ?_
    refine lv_iconst (v := (4 : Int32)) hx hb dX7_isFreeCore_14 (by decide) ?_
    refine lv_icmp_eq (tgt := 22) hx hb dX7_isFreeCore_15 (by decide) (fun c_2 => ?_) (fun c_2 => ?_)
    · skip
      refine lv_iconst (v := (0 : Int32)) hx hb dX7_isFreeCore_22 (by decide) ?_
      exact ro_zret hx hb hr hlocks rfl dX7_isFreeCore_23 (by rw [m_X7_isFreeCore, if_neg c_1, if_pos c_2])
    · skip
      refine lv_iconst (v := (1 : Int32)) hx hb dX7_isFreeCore_18 (by decide) ?_
      refine lv_goto (tgt := 23) hx hb dX7_isFreeCore_19 (by decide) ?_
      exact ro_zret hx hb hr hlocks rfl dX7_isFreeCore_23 (by rw [m_X7_isFreeCore, if_neg c_1, if_neg c_2])
theorem hs_isFreeCore {un : UnT} {u : Int32} (c : ¬ m_X7_isFreeCore un u = 0) : ¬ m_X7_has un u = 0 := hs_isFree (fun e => c (by unfold m_X7_isFreeCore; rw [if_pos e]))
theorem bd_isFreeCore {un : UnT} {u : Int32} (hu : uOK un) (c : ¬ m_X7_isFreeCore un u = 0) : vp_in u 16 := bd_has hu (hs_isFreeCore c)
def m_X7_isGoodSpare (un : UnT) (x1 : Int32) : Int32 := if (m_X7_isFree un x1) = (0 : Int32) then (0 : Int32) else if (m_X7_isUsable un x1) = (0 : Int32) then (0 : Int32) else if ((uO un) x1.toNatClampNeg) = (4 : Int32) then (1 : Int32) else (0 : Int32)
theorem hd_X7_isGoodSpare : yX7_isGoodSpare.cls = RX7 ∧ yX7_isGoodSpare.cls ≠ "java/lang/invoke/MethodHandle" ∧ yX7_isGoodSpare.cls ≠ "java/lang/invoke/VarHandle" ∧ (parseMethodDescriptor yX7_isGoodSpare.desc).map (fun d => d.parameters.length) = some 1 := by decide +kernel
set_option maxHeartbeats 8000000 in
set_option maxRecDepth 20000 in
theorem c_X7_isGoodSpare (l : Launch) (D : va_G) (cy : Nat → ClassId) (a0 a1 a2 a3 a4 a5 : Nat) (un : UnT) (x1 : Int32) (hOK : uOK un) : RO l D cy yX7_isGoodSpare wsX7_isGoodSpare ({ frames := 2, cells := 0, slots := 0, locals := 42 } : Room) (wUn cy a0 a1 a2 a3 a4 a5 un) [.ref a0, .int x1] (m_X7_isGoodSpare un x1) := by
  refine RO.body (by decide) rfl (Nat.le_of_ble_eq_true rfl) ?_
  intro p e s m below meth c hx hb hml hr hts hown hlocks hP hG ls hl
  have hl : lv_has ls 2 [(0, .ref a0), (1, .int x1)] := hl
  have hCF : CallFix p m c cX7_isGoodSpare 2 s ([.ref a0, .int x1] : List Value).toArray wsX7_isGoodSpare RX7 := ⟨hx, hb, hml, hown, hts⟩
  have in_X7 : ∀ w ∈ u_ws RX7 TX7 6, w ∈ wsX7_isGoodSpare := fun _ h => List.mem_cons_of_mem _ (List.mem_append_right _ h)
  have k_0 := hts (Cond.fieldLink RX7 15 "SparePool$Units" "owner" "[I") (List.mem_of_getElem? (i := 1) rfl)
  refine lv_aload_n hx hb dX7_isGoodSpare_0 rfl (lv_at hl 0 rfl) ?_
  refine lv_iload_n hx hb dX7_isGoodSpare_1 rfl (lv_at hl 1 rfl) ?_
  refine roV (wc := (wUn cy a0 a1 a2 a3 a4 a5 un)) (As := [.int x1]) (rest := []) (c_X7_isFree l D cy a0 a1 a2 a3 a4 a5 un x1 hOK) hCF gX7_isGoodSpare_X7_isFree rfl hd_X7_isFree ⟨rfl, rfl, Nat.le_of_ble_eq_true rfl, Nat.le_of_ble_eq_true rfl⟩ hG hP (ci := 5) rfl rfl g_Un_0 rfl hl.1 rfl (Nat.le_of_ble_eq_true rfl) dX7_isGoodSpare_2 ⟨Nat.le_refl _, Nat.le_refl _⟩ ?_
  refine lv_if_eq (tgt := 30) hx hb dX7_isGoodSpare_5 (by decide) (fun c_1 => ?_) (fun c_1 => ?_)
  · skip
    refine lv_iconst (v := (0 : Int32)) hx hb dX7_isGoodSpare_30 (by decide) ?_
    exact ro_zret hx hb hr hlocks rfl dX7_isGoodSpare_31 (by rw [m_X7_isGoodSpare, if_pos c_1])
  · skip
    refine lv_aload_n hx hb dX7_isGoodSpare_8 rfl (lv_at hl 0 rfl) ?_
    refine lv_iload_n hx hb dX7_isGoodSpare_9 rfl (lv_at hl 1 rfl) ?_
    refine roV (wc := (wUn cy a0 a1 a2 a3 a4 a5 un)) (As := [.int x1]) (rest := []) (c_X7_isUsable l D cy a0 a1 a2 a3 a4 a5 un x1 hOK) hCF gX7_isGoodSpare_X7_isUsable rfl hd_X7_isUsable ⟨rfl, rfl, Nat.le_of_ble_eq_true rfl, Nat.le_of_ble_eq_true rfl⟩ hG hP (ci := 5) rfl rfl g_Un_0 rfl hl.1 rfl (Nat.le_of_ble_eq_true rfl) dX7_isGoodSpare_10 ⟨Nat.le_refl _, Nat.le_refl _⟩ ?_
    refine lv_if_eq (tgt := 30) hx hb dX7_isGoodSpare_13 (by decide) (fun c_2 => ?_) (fun c_2 => ?_)
    · skip
      refine lv_iconst (v := (0 : Int32)) hx hb dX7_isGoodSpare_30 (by decide) ?_
      exact ro_zret hx hb hr hlocks rfl dX7_isGoodSpare_31 (by rw [m_X7_isGoodSpare, if_neg c_1, if_pos c_2])
    · skip
      refine lv_aload_n hx hb dX7_isGoodSpare_16 rfl (lv_at hl 0 rfl) ?_
      refine va_get (D := D) (ci := 5) (v := .ref a2) (C := RX7) (T := TX7) (N := 6) hx hb hts in_X7 hown hG.1 hP 0 g_Un_0 rfl 1 (by decide) k_0 (fun _ h9 => h9) rfl dX7_isGoodSpare_17 ?_
      refine lv_iload_n hx hb dX7_isGoodSpare_20 rfl (lv_at hl 1 rfl) ?_
      refine va_iald hx hb hG.1 hP 2 0 (n := 16) (f := (uO un)) g_Un_2 rfl (bd_isFree hOK c_1) dX7_isGoodSpare_21 ?_
      refine lv_iconst (v := (4 : Int32)) hx hb dX7_isGoodSpare_22 (by decide) ?_
      refine lv_icmp_ne (tgt := 30) hx hb dX7_isGoodSpare_23 (by decide) (fun c_3 => ?_) (fun c_3 => ?_)
      · skip
        refine lv_iconst (v := (0 : Int32)) hx hb dX7_isGoodSpare_30 (by decide) ?_
        exact ro_zret hx hb hr hlocks rfl dX7_isGoodSpare_31 (by rw [m_X7_isGoodSpare, if_neg c_1, if_neg c_2, if_neg c_3])
      · skip
        refine lv_iconst (v := (1 : Int32)) hx hb dX7_isGoodSpare_26 (by decide) ?_
        refine lv_goto (tgt := 31) hx hb dX7_isGoodSpare_27 (by decide) ?_
        exact ro_zret hx hb hr hlocks rfl dX7_isGoodSpare_31 (by rw [m_X7_isGoodSpare, if_neg c_1, if_neg c_2, if_pos c_3])
theorem hs_isGoodSpare {un : UnT} {u : Int32} (c : ¬ m_X7_isGoodSpare un u = 0) : ¬ m_X7_has un u = 0 := hs_isFree (fun e => c (by unfold m_X7_isGoodSpare; rw [if_pos e]))
theorem bd_isGoodSpare {un : UnT} {u : Int32} (hu : uOK un) (c : ¬ m_X7_isGoodSpare un u = 0) : vp_in u 16 := bd_has hu (hs_isGoodSpare c)
def m_X7_isOfKindAt (un : UnT) (x1 : Int32) (x2 : Int32) (x3 : Int32) : Int32 := if (m_X7_has un x1) = (0 : Int32) then (0 : Int32) else if ((uK un) x1.toNatClampNeg) = x2 then if ((uP un) x1.toNatClampNeg) = x3 then (1 : Int32) else (0 : Int32) else (0 : Int32)
theorem hd_X7_isOfKindAt : yX7_isOfKindAt.cls = RX7 ∧ yX7_isOfKindAt.cls ≠ "java/lang/invoke/MethodHandle" ∧ yX7_isOfKindAt.cls ≠ "java/lang/invoke/VarHandle" ∧ (parseMethodDescriptor yX7_isOfKindAt.desc).map (fun d => d.parameters.length) = some 3 := by decide +kernel
set_option maxHeartbeats 8000000 in
set_option maxRecDepth 20000 in
theorem c_X7_isOfKindAt (l : Launch) (D : va_G) (cy : Nat → ClassId) (a0 a1 a2 a3 a4 a5 : Nat) (un : UnT) (x1 : Int32) (x2 : Int32) (x3 : Int32) (hOK : uOK un) : RO l D cy yX7_isOfKindAt wsX7_isOfKindAt ({ frames := 1, cells := 0, slots := 0, locals := 21 } : Room) (wUn cy a0 a1 a2 a3 a4 a5 un) [.ref a0, .int x1, .int x2, .int x3] (m_X7_isOfKindAt un x1 x2 x3) := by
  refine RO.body (by decide) rfl (Nat.le_of_ble_eq_true rfl) ?_
  intro p e s m below meth c hx hb hml hr hts hown hlocks hP hG ls hl
  have hl : lv_has ls 4 [(0, .ref a0), (1, .int x1), (2, .int x2), (3, .int x3)] := hl
  have hCF : CallFix p m c cX7_isOfKindAt 4 s ([.ref a0, .int x1, .int x2, .int x3] : List Value).toArray wsX7_isOfKindAt RX7 := ⟨hx, hb, hml, hown, hts⟩
  have in_X7 : ∀ w ∈ u_ws RX7 TX7 6, w ∈ wsX7_isOfKindAt := fun _ h => List.mem_cons_of_mem _ (List.mem_append_right _ h)
  have k_0 := hts (Cond.fieldLink RX7 9 "SparePool$Units" "kind" "[I") (List.mem_of_getElem? (i := 1) rfl)
  have k_1 := hts (Cond.fieldLink RX7 18 "SparePool$Units" "place" "[I") (List.mem_of_getElem? (i := 2) rfl)
  refine lv_aload_n hx hb dX7_isOfKindAt_0 rfl (lv_at hl 0 rfl) ?_
  refine lv_iload_n hx hb dX7_isOfKindAt_1 rfl (lv_at hl 1 rfl) ?_
  refine roV (wc := (wUn cy a0 a1 a2 a3 a4 a5 un)) (As := [.int x1]) (rest := []) (c_X7_has l D cy a0 a1 a2 a3 a4 a5 un x1 hOK) hCF gX7_isOfKindAt_X7_has rfl hd_X7_has ⟨rfl, rfl, Nat.le_of_ble_eq_true rfl, Nat.le_of_ble_eq_true rfl⟩ hG hP (ci := 5) rfl rfl g_Un_0 rfl hl.1 rfl (Nat.le_of_ble_eq_true rfl) dX7_isOfKindAt_2 ⟨Nat.le_refl _, Nat.le_refl _⟩ ?_
  refine lv_if_eq (tgt := 32) hx hb dX7_isOfKindAt_5 (by decide) (fun c_1 => ?_) (fun c_1 => ?_)
  · skip
    refine lv_iconst (v := (0 : Int32)) hx hb dX7_isOfKindAt_32 (by decide) ?_
    exact ro_zret hx hb hr hlocks rfl dX7_isOfKindAt_33 (by rw [m_X7_isOfKindAt, if_pos c_1])
  · skip
    refine lv_aload_n hx hb dX7_isOfKindAt_8 rfl (lv_at hl 0 rfl) ?_
    refine va_get (D := D) (ci := 5) (v := .ref a1) (C := RX7) (T := TX7) (N := 6) hx hb hts in_X7 hown hG.1 hP 0 g_Un_0 rfl 0 (by decide) k_0 (fun _ h9 => h9) rfl dX7_isOfKindAt_9 ?_
    refine lv_iload_n hx hb dX7_isOfKindAt_12 rfl (lv_at hl 1 rfl) ?_
    refine va_iald hx hb hG.1 hP 1 0 (n := 16) (f := (uK un)) g_Un_1 rfl (bd_has hOK c_1) dX7_isOfKindAt_13 ?_
    refine lv_iload_n hx hb dX7_isOfKindAt_14 rfl (lv_at hl 2 rfl) ?_
    refine lv_icmp_ne (tgt := 32) hx hb dX7_isOfKindAt_15 (by decide) (fun c_2 => ?_) (fun c_2 => ?_)
    · skip
      refine lv_iconst (v := (0 : Int32)) hx hb dX7_isOfKindAt_32 (by decide) ?_
      exact ro_zret hx hb hr hlocks rfl dX7_isOfKindAt_33 (by rw [m_X7_isOfKindAt, if_neg c_1, if_neg c_2])
    · skip
      refine lv_aload_n hx hb dX7_isOfKindAt_18 rfl (lv_at hl 0 rfl) ?_
      refine va_get (D := D) (ci := 5) (v := .ref a3) (C := RX7) (T := TX7) (N := 6) hx hb hts in_X7 hown hG.1 hP 0 g_Un_0 rfl 2 (by decide) k_1 (fun _ h9 => h9) rfl dX7_isOfKindAt_19 ?_
      refine lv_iload_n hx hb dX7_isOfKindAt_22 rfl (lv_at hl 1 rfl) ?_
      refine va_iald hx hb hG.1 hP 3 0 (n := 16) (f := (uP un)) g_Un_3 rfl (bd_has hOK c_1) dX7_isOfKindAt_23 ?_
      refine lv_iload_n hx hb dX7_isOfKindAt_24 rfl (lv_at hl 3 rfl) ?_
      refine lv_icmp_ne (tgt := 32) hx hb dX7_isOfKindAt_25 (by decide) (fun c_3 => ?_) (fun c_3 => ?_)
      · skip
        refine lv_iconst (v := (0 : Int32)) hx hb dX7_isOfKindAt_32 (by decide) ?_
        exact ro_zret hx hb hr hlocks rfl dX7_isOfKindAt_33 (by rw [m_X7_isOfKindAt, if_neg c_1, if_pos c_2, if_neg c_3])
      · skip
        refine lv_iconst (v := (1 : Int32)) hx hb dX7_isOfKindAt_28 (by decide) ?_
        refine lv_goto (tgt := 33) hx hb dX7_isOfKindAt_29 (by decide) ?_
        exact ro_zret hx hb hr hlocks rfl dX7_isOfKindAt_33 (by rw [m_X7_isOfKindAt, if_neg c_1, if_pos c_2, if_pos c_3])
theorem hs_isOfKindAt {un : UnT} {u k h : Int32} (c : ¬ m_X7_isOfKindAt un u k h = 0) : ¬ m_X7_has un u = 0 := fun e => c (by unfold m_X7_isOfKindAt; rw [if_pos e])
theorem bd_isOfKindAt {un : UnT} {u k h : Int32} (hu : uOK un) (c : ¬ m_X7_isOfKindAt un u k h = 0) : vp_in u 16 := bd_has hu (hs_isOfKindAt c)
def m_X7_hasPart (un : UnT) (x1 : Int32) (x2 : Int32) : Int32 := if (m_X7_has un x1) = (0 : Int32) then (0 : Int32) else if (((uQ un) x1.toNatClampNeg) &&& ((1 : Int32) <<< (x2 &&& (31 : Int32)))) = (0 : Int32) then (0 : Int32) else (1 : Int32)
theorem hd_X7_hasPart : yX7_hasPart.cls = RX7 ∧ yX7_hasPart.cls ≠ "java/lang/invoke/MethodHandle" ∧ yX7_hasPart.cls ≠ "java/lang/invoke/VarHandle" ∧ (parseMethodDescriptor yX7_hasPart.desc).map (fun d => d.parameters.length) = some 2 := by decide +kernel
set_option maxHeartbeats 8000000 in
set_option maxRecDepth 20000 in
theorem c_X7_hasPart (l : Launch) (D : va_G) (cy : Nat → ClassId) (a0 a1 a2 a3 a4 a5 : Nat) (un : UnT) (x1 : Int32) (x2 : Int32) (hOK : uOK un) : RO l D cy yX7_hasPart wsX7_hasPart ({ frames := 1, cells := 0, slots := 0, locals := 21 } : Room) (wUn cy a0 a1 a2 a3 a4 a5 un) [.ref a0, .int x1, .int x2] (m_X7_hasPart un x1 x2) := by
  refine RO.body (by decide) rfl (Nat.le_of_ble_eq_true rfl) ?_
  intro p e s m below meth c hx hb hml hr hts hown hlocks hP hG ls hl
  have hl : lv_has ls 3 [(0, .ref a0), (1, .int x1), (2, .int x2)] := hl
  have hCF : CallFix p m c cX7_hasPart 3 s ([.ref a0, .int x1, .int x2] : List Value).toArray wsX7_hasPart RX7 := ⟨hx, hb, hml, hown, hts⟩
  have in_X7 : ∀ w ∈ u_ws RX7 TX7 6, w ∈ wsX7_hasPart := fun _ h => List.mem_cons_of_mem _ (List.mem_append_right _ h)
  have k_0 := hts (Cond.fieldLink RX7 21 "SparePool$Units" "parts" "[I") (List.mem_of_getElem? (i := 1) rfl)
  refine lv_aload_n hx hb dX7_hasPart_0 rfl (lv_at hl 0 rfl) ?_
  refine lv_iload_n hx hb dX7_hasPart_1 rfl (lv_at hl 1 rfl) ?_
  refine roV (wc := (wUn cy a0 a1 a2 a3 a4 a5 un)) (As := [.int x1]) (rest := []) (c_X7_has l D cy a0 a1 a2 a3 a4 a5 un x1 hOK) hCF gX7_hasPart_X7_has rfl hd_X7_has ⟨rfl, rfl, Nat.le_of_ble_eq_true rfl, Nat.le_of_ble_eq_true rfl⟩ hG hP (ci := 5) rfl rfl g_Un_0 rfl hl.1 rfl (Nat.le_of_ble_eq_true rfl) dX7_hasPart_2 ⟨Nat.le_refl _, Nat.le_refl _⟩ ?_
  refine lv_if_eq (tgt := 25) hx hb dX7_hasPart_5 (by decide) (fun c_1 => ?_) (fun c_1 => ?_)
  · skip
    refine lv_iconst (v := (0 : Int32)) hx hb dX7_hasPart_25 (by decide) ?_
    exact ro_zret hx hb hr hlocks rfl dX7_hasPart_26 (by rw [m_X7_hasPart, if_pos c_1])
  · skip
    refine lv_aload_n hx hb dX7_hasPart_8 rfl (lv_at hl 0 rfl) ?_
    refine va_get (D := D) (ci := 5) (v := .ref a4) (C := RX7) (T := TX7) (N := 6) hx hb hts in_X7 hown hG.1 hP 0 g_Un_0 rfl 3 (by decide) k_0 (fun _ h9 => h9) rfl dX7_hasPart_9 ?_
    refine lv_iload_n hx hb dX7_hasPart_12 rfl (lv_at hl 1 rfl) ?_
    refine va_iald hx hb hG.1 hP 4 0 (n := 16) (f := (uQ un)) g_Un_4 rfl (bd_has hOK c_1) dX7_hasPart_13 ?_
    refine lv_iconst (v := (1 : Int32)) hx hb dX7_hasPart_14 (by decide) ?_
    refine lv_iload_n hx hb dX7_hasPart_15 rfl (lv_at hl 2 rfl) ?_
    refine lv_ishl hx hb dX7_hasPart_16 ?_
    refine lv_iand hx hb dX7_hasPart_17 ?_
    refine lv_if_eq (tgt := 25) hx hb dX7_hasPart_18 (by decide) (fun c_2 => ?_) (fun c_2 => ?_)
    · skip
      refine lv_iconst (v := (0 : Int32)) hx hb dX7_hasPart_25 (by decide) ?_
      exact ro_zret hx hb hr hlocks rfl dX7_hasPart_26 (by rw [m_X7_hasPart, if_neg c_1, if_pos c_2])
    · skip
      refine lv_iconst (v := (1 : Int32)) hx hb dX7_hasPart_21 (by decide) ?_
      refine lv_goto (tgt := 26) hx hb dX7_hasPart_22 (by decide) ?_
      exact ro_zret hx hb hr hlocks rfl dX7_hasPart_26 (by rw [m_X7_hasPart, if_neg c_1, if_neg c_2])
theorem hs_hasPart {un : UnT} {u k : Int32} (c : ¬ m_X7_hasPart un u k = 0) : ¬ m_X7_has un u = 0 := fun e => c (by unfold m_X7_hasPart; rw [if_pos e])
theorem bd_hasPart {un : UnT} {u k : Int32} (hu : uOK un) (c : ¬ m_X7_hasPart un u k = 0) : vp_in u 16 := bd_has hu (hs_hasPart c)
def m_X7_missingParts (un : UnT) (x1 : Int32) : Int32 := if (m_X7_has un x1) = (0 : Int32) then (0 : Int32) else (3 : Int32) - (m_bitCount (((uQ un) x1.toNatClampNeg) &&& (7 : Int32)))
theorem hd_X7_missingParts : yX7_missingParts.cls = RX7 ∧ yX7_missingParts.cls ≠ "java/lang/invoke/MethodHandle" ∧ yX7_missingParts.cls ≠ "java/lang/invoke/VarHandle" ∧ (parseMethodDescriptor yX7_missingParts.desc).map (fun d => d.parameters.length) = some 1 := by decide +kernel
set_option maxHeartbeats 8000000 in
set_option maxRecDepth 20000 in
theorem c_X7_missingParts (l : Launch) (D : va_G) (cy : Nat → ClassId) (a0 a1 a2 a3 a4 a5 : Nat) (un : UnT) (x1 : Int32) (hOK : uOK un) : RO l D cy yX7_missingParts wsX7_missingParts ({ frames := 1, cells := 0, slots := 0, locals := 21 } : Room) (wUn cy a0 a1 a2 a3 a4 a5 un) [.ref a0, .int x1] (m_X7_missingParts un x1) := by
  refine RO.body (by decide) rfl (Nat.le_of_ble_eq_true rfl) ?_
  intro p e s m below meth c hx hb hml hr hts hown hlocks hP hG ls hl
  have hl : lv_has ls 2 [(0, .ref a0), (1, .int x1)] := hl
  have hCF : CallFix p m c cX7_missingParts 2 s ([.ref a0, .int x1] : List Value).toArray wsX7_missingParts RX7 := ⟨hx, hb, hml, hown, hts⟩
  have in_X7 : ∀ w ∈ u_ws RX7 TX7 6, w ∈ wsX7_missingParts := fun _ h => List.mem_cons_of_mem _ (List.mem_append_right _ h)
  have k_0 := hts (Cond.fieldLink RX7 21 "SparePool$Units" "parts" "[I") (List.mem_of_getElem? (i := 1) rfl)
  refine lv_aload_n hx hb dX7_missingParts_0 rfl (lv_at hl 0 rfl) ?_
  refine lv_iload_n hx hb dX7_missingParts_1 rfl (lv_at hl 1 rfl) ?_
  refine roV (wc := (wUn cy a0 a1 a2 a3 a4 a5 un)) (As := [.int x1]) (rest := []) (c_X7_has l D cy a0 a1 a2 a3 a4 a5 un x1 hOK) hCF gX7_missingParts_X7_has rfl hd_X7_has ⟨rfl, rfl, Nat.le_of_ble_eq_true rfl, Nat.le_of_ble_eq_true rfl⟩ hG hP (ci := 5) rfl rfl g_Un_0 rfl hl.1 rfl (Nat.le_of_ble_eq_true rfl) dX7_missingParts_2 ⟨Nat.le_refl _, Nat.le_refl _⟩ ?_
  refine lv_if_eq (tgt := 25) hx hb dX7_missingParts_5 (by decide) (fun c_1 => ?_) (fun c_1 => ?_)
  · skip
    refine lv_iconst (v := (0 : Int32)) hx hb dX7_missingParts_25 (by decide) ?_
    exact ro_iret hx hb hr hlocks dX7_missingParts_26 (by rw [m_X7_missingParts, if_pos c_1])
  · skip
    refine lv_iconst (v := (3 : Int32)) hx hb dX7_missingParts_8 (by decide) ?_
    refine lv_aload_n hx hb dX7_missingParts_9 rfl (lv_at hl 0 rfl) ?_
    refine va_get (D := D) (ci := 5) (v := .ref a4) (C := RX7) (T := TX7) (N := 6) hx hb hts in_X7 hown hG.1 hP 0 g_Un_0 rfl 3 (by decide) k_0 (fun _ h9 => h9) rfl dX7_missingParts_10 ?_
    refine lv_iload_n hx hb dX7_missingParts_13 rfl (lv_at hl 1 rfl) ?_
    refine va_iald hx hb hG.1 hP 4 0 (n := 16) (f := (uQ un)) g_Un_4 rfl (bd_has hOK c_1) dX7_missingParts_14 ?_
    refine lv_bipush (v := (7 : Int32)) hx hb dX7_missingParts_15 (by decide) ?_
    refine lv_iand hx hb dX7_missingParts_17 ?_
    refine roSX (wc := ([] : va_W)) (As := [.int (((uQ un) x1.toNatClampNeg) &&& (7 : Int32))]) (rest := [.int (3 : Int32)]) (c_bitCount l D cy (((uQ un) x1.toNatClampNeg) &&& (7 : Int32))) hCF gX7_missingParts_J6_bitCount_0f7a4 rfl hd_bitCount ⟨rfl, rfl, Nat.le_of_ble_eq_true rfl, Nat.le_of_ble_eq_true rfl⟩ hG va_P_nil rfl hl.1 rfl (Nat.le_of_ble_eq_true rfl) dX7_missingParts_18 ⟨Nat.le_refl _, Nat.le_refl _⟩ ?_
    refine lv_isub hx hb dX7_missingParts_21 ?_
    refine lv_goto (tgt := 26) hx hb dX7_missingParts_22 (by decide) ?_
    exact ro_iret hx hb hr hlocks dX7_missingParts_26 (by rw [m_X7_missingParts, if_neg c_1])
def m_X7_giveTo (un : UnT) (x1 : Int32) (x2 : Int32) : UnT := if (m_X7_has un x1) = (0 : Int32) then un else uD' (uP' (uO' un (upd (uO un) x1.toNatClampNeg x2)) (upd (uP un) x1.toNatClampNeg x2)) (upd (uD un) x1.toNatClampNeg (-1 : Int32))
theorem hd_X7_giveTo : yX7_giveTo.cls = RX7 ∧ yX7_giveTo.cls ≠ "java/lang/invoke/MethodHandle" ∧ yX7_giveTo.cls ≠ "java/lang/invoke/VarHandle" ∧ (parseMethodDescriptor yX7_giveTo.desc).map (fun d => d.parameters.length) = some 2 := by decide +kernel
set_option maxHeartbeats 8000000 in
set_option maxRecDepth 20000 in
theorem c_X7_giveTo (l : Launch) (D : va_G) (cy : Nat → ClassId) (a0 a1 a2 a3 a4 a5 : Nat) (un : UnT) (x1 : Int32) (x2 : Int32) (hOK : uOK un) : MV l D cy yX7_giveTo wsX7_giveTo ({ frames := 1, cells := 0, slots := 0, locals := 21 } : Room) (wUn cy a0 a1 a2 a3 a4 a5 un) (wUn cy a0 a1 a2 a3 a4 a5 (m_X7_giveTo un x1 x2)) [.ref a0, .int x1, .int x2] := by
  refine MV.body (by decide) rfl (Nat.le_of_ble_eq_true rfl) ?_
  intro p e s m below meth c hx hb hml hr hts hown hlocks hP hG ls hl A hD hA hS
  have hl : lv_has ls 3 [(0, .ref a0), (1, .int x1), (2, .int x2)] := hl
  have hCF : CallFix p m c cX7_giveTo 3 s ([.ref a0, .int x1, .int x2] : List Value).toArray wsX7_giveTo RX7 := ⟨hx, hb, hml, hown, hts⟩
  have in_X7 : ∀ w ∈ u_ws RX7 TX7 6, w ∈ wsX7_giveTo := fun _ h => List.mem_cons_of_mem _ (List.mem_append_right _ h)
  have k_0 := hts (Cond.fieldLink RX7 15 "SparePool$Units" "owner" "[I") (List.mem_of_getElem? (i := 1) rfl)
  have k_1 := hts (Cond.fieldLink RX7 18 "SparePool$Units" "place" "[I") (List.mem_of_getElem? (i := 2) rfl)
  have k_2 := hts (Cond.fieldLink RX7 24 "SparePool$Units" "due" "[I") (List.mem_of_getElem? (i := 3) rfl)
  have hP : va_P D vwCl (wUn cy a0 a1 a2 a3 a4 a5 un) s.heap := hP
  refine lv_aload_n hx hb dX7_giveTo_0 rfl (lv_at hl 0 rfl) ?_
  refine lv_iload_n hx hb dX7_giveTo_1 rfl (lv_at hl 1 rfl) ?_
  refine roV (wc := (wUn cy a0 a1 a2 a3 a4 a5 un)) (As := [.int x1]) (rest := []) (c_X7_has l D cy a0 a1 a2 a3 a4 a5 un x1 hOK) hCF gX7_giveTo_X7_has rfl hd_X7_has ⟨rfl, rfl, Nat.le_of_ble_eq_true rfl, Nat.le_of_ble_eq_true rfl⟩ hG hP (ci := 5) rfl rfl g_Un_0 rfl hl.1 rfl (Nat.le_of_ble_eq_true rfl) dX7_giveTo_2 ⟨Nat.le_refl _, Nat.le_refl _⟩ ?_
  refine lv_if_eq (tgt := 29) hx hb dX7_giveTo_5 (by decide) (fun c_1 => ?_) (fun c_1 => ?_)
  · skip
    exact mu_vret hx hb hr hlocks hP hS dX7_giveTo_29 (by rw [m_X7_giveTo, if_pos c_1])
  · skip
    refine lv_aload_n hx hb dX7_giveTo_8 rfl (lv_at hl 0 rfl) ?_
    refine va_get (D := D) (ci := 5) (v := .ref a2) (C := RX7) (T := TX7) (N := 6) hx hb hts in_X7 hown hG.1 hP 0 g_Un_0 rfl 1 (by decide) k_0 (fun _ h9 => h9) rfl dX7_giveTo_9 ?_
    refine lv_iload_n hx hb dX7_giveTo_12 rfl (lv_at hl 1 rfl) ?_
    refine lv_iload_n hx hb dX7_giveTo_13 rfl (lv_at hl 2 rfl) ?_
    refine va_iast hx hb hG.1 hP hD hS 2 0 (n := 16) (f := (uO un)) g_Un_2 rfl (bd_has hOK c_1) dX7_giveTo_14 (fun H locs hP hD hS => ?_)
    have hP : va_P D vwCl (wUn cy a0 a1 a2 a3 a4 a5 (uO' un (upd (uO un) x1.toNatClampNeg x2))) H := va_P_eq hP s_Un_2
    have hD : va_D A (wUn cy a0 a1 a2 a3 a4 a5 (uO' un (upd (uO un) x1.toNatClampNeg x2))) := va_D_eq hD s_Un_2
    refine lv_aload_n hx hb dX7_giveTo_15 rfl (lv_at hl 0 rfl) ?_
    refine va_get (D := D) (ci := 5) (v := .ref a3) (C := RX7) (T := TX7) (N := 6) hx hb hts in_X7 hown hG.1 hP 0 g_Un_0 rfl 2 (by decide) k_1 (fun _ h9 => h9) rfl dX7_giveTo_16 ?_
    refine lv_iload_n hx hb dX7_giveTo_19 rfl (lv_at hl 1 rfl) ?_
    refine lv_iload_n hx hb dX7_giveTo_20 rfl (lv_at hl 2 rfl) ?_
    refine va_iast hx hb hG.1 hP hD hS 3 0 (n := 16) (f := (uP un)) g_Un_3 rfl (bd_has hOK c_1) dX7_giveTo_21 (fun H locs hP hD hS => ?_)
    have hP : va_P D vwCl (wUn cy a0 a1 a2 a3 a4 a5 (uP' (uO' un (upd (uO un) x1.toNatClampNeg x2)) (upd (uP un) x1.toNatClampNeg x2))) H := va_P_eq hP s_Un_3
    have hD : va_D A (wUn cy a0 a1 a2 a3 a4 a5 (uP' (uO' un (upd (uO un) x1.toNatClampNeg x2)) (upd (uP un) x1.toNatClampNeg x2))) := va_D_eq hD s_Un_3
    refine lv_aload_n hx hb dX7_giveTo_22 rfl (lv_at hl 0 rfl) ?_
    refine va_get (D := D) (ci := 5) (v := .ref a5) (C := RX7) (T := TX7) (N := 6) hx hb hts in_X7 hown hG.1 hP 0 g_Un_0 rfl 4 (by decide) k_2 (fun _ h9 => h9) rfl dX7_giveTo_23 ?_
    refine lv_iload_n hx hb dX7_giveTo_26 rfl (lv_at hl 1 rfl) ?_
    refine lv_iconst (v := (-1 : Int32)) hx hb dX7_giveTo_27 (by decide) ?_
    refine va_iast hx hb hG.1 hP hD hS 5 0 (n := 16) (f := (uD un)) g_Un_5 rfl (bd_has hOK c_1) dX7_giveTo_28 (fun H locs hP hD hS => ?_)
    have hP : va_P D vwCl (wUn cy a0 a1 a2 a3 a4 a5 (uD' (uP' (uO' un (upd (uO un) x1.toNatClampNeg x2)) (upd (uP un) x1.toNatClampNeg x2)) (upd (uD un) x1.toNatClampNeg (-1 : Int32)))) H := va_P_eq hP s_Un_5
    have hD : va_D A (wUn cy a0 a1 a2 a3 a4 a5 (uD' (uP' (uO' un (upd (uO un) x1.toNatClampNeg x2)) (upd (uP un) x1.toNatClampNeg x2)) (upd (uD un) x1.toNatClampNeg (-1 : Int32)))) := va_D_eq hD s_Un_5
    exact mu_vret hx hb hr hlocks hP hS dX7_giveTo_29 (by rw [m_X7_giveTo, if_neg c_1])
theorem uN_giveTo (un : UnT) (u h : Int32) : uN (m_X7_giveTo un u h) = uN un := by
  unfold m_X7_giveTo
  split <;> rfl
theorem ok_giveTo {un : UnT} {u h : Int32} (hu : uOK un) : uOK (m_X7_giveTo un u h) := by
  unfold uOK
  rw [uN_giveTo]
  exact hu
theorem ok_addN {un un2 : UnT} (hu : uOK un) (c : uN un < (16 : Int32)) (e : uN un2 = uN un + 1) : uOK un2 := by
  rw [i32_lt] at c
  have e16 : (16 : Int32).toInt = 16 := by decide
  have := hu.1
  have h1 : (uN un + 1).toInt = (uN un).toInt + 1 := by rw [i32_add (by rw [i32_1]; omega) (by rw [i32_1]; omega), i32_1]
  unfold uOK
  rw [e, h1]
  omega
theorem bd_add {un : UnT} (hu : uOK un) (c : uN un < (16 : Int32)) : vp_in (uN un) 16 := by
  rw [i32_lt] at c
  have : (16 : Int32).toInt = 16 := by decide
  exact bd_of hu.1 (by omega)
def m_X7_add (un : UnT) (x1 : Int32) (x2 : Int32) (x3 : Int32) : Int32 × UnT := if (uN un) < (16 : Int32) then (uN un, m_X7_giveTo (uN' (uQ' (uK' un (upd (uK un) (uN un).toNatClampNeg x1)) (upd (uQ un) (uN un).toNatClampNeg x3)) ((uN un) + (1 : Int32))) (uN un) x2) else ((-1 : Int32), un)
theorem hd_X7_add : yX7_add.cls = RX7 ∧ yX7_add.cls ≠ "java/lang/invoke/MethodHandle" ∧ yX7_add.cls ≠ "java/lang/invoke/VarHandle" ∧ (parseMethodDescriptor yX7_add.desc).map (fun d => d.parameters.length) = some 3 := by decide +kernel
set_option maxHeartbeats 8000000 in
set_option maxRecDepth 20000 in
theorem c_X7_add (l : Launch) (D : va_G) (cy : Nat → ClassId) (a0 a1 a2 a3 a4 a5 : Nat) (un : UnT) (x1 : Int32) (x2 : Int32) (x3 : Int32) (hOK : uOK un) : MU l D cy yX7_add wsX7_add ({ frames := 2, cells := 0, slots := 0, locals := 43 } : Room) (wUn cy a0 a1 a2 a3 a4 a5 un) (wUn cy a0 a1 a2 a3 a4 a5 (m_X7_add un x1 x2 x3).2) [.ref a0, .int x1, .int x2, .int x3] (m_X7_add un x1 x2 x3).1 := by
  refine MU.body (by decide) rfl (Nat.le_of_ble_eq_true rfl) ?_
  intro p e s m below meth c hx hb hml hr hts hown hlocks hP hG ls hl A hD hA hS
  have hl : lv_has ls 5 [(0, .ref a0), (1, .int x1), (2, .int x2), (3, .int x3)] := hl
  have hCF : CallFix p m c cX7_add 5 s ([.ref a0, .int x1, .int x2, .int x3] : List Value).toArray wsX7_add RX7 := ⟨hx, hb, hml, hown, hts⟩
  have in_X7 : ∀ w ∈ u_ws RX7 TX7 6, w ∈ wsX7_add := fun _ h => List.mem_cons_of_mem _ (List.mem_append_right _ h)
  have k_0 := hts (Cond.fieldLink RX7 33 "SparePool$Units" "count" "I") (List.mem_of_getElem? (i := 1) rfl)
  have k_1 := hts (Cond.fieldLink RX7 9 "SparePool$Units" "kind" "[I") (List.mem_of_getElem? (i := 2) rfl)
  have k_2 := hts (Cond.fieldLink RX7 21 "SparePool$Units" "parts" "[I") (List.mem_of_getElem? (i := 3) rfl)
  have hP : va_P D vwCl (wUn cy a0 a1 a2 a3 a4 a5 un) s.heap := hP
  refine lv_aload_n hx hb dX7_add_0 rfl (lv_at hl 0 rfl) ?_
  refine va_get (D := D) (ci := 5) (v := .int (uN un)) (C := RX7) (T := TX7) (N := 6) hx hb hts in_X7 hown hG.1 hP 0 g_Un_0 rfl 5 (by decide) k_0 (fun _ h9 => h9) rfl dX7_add_1 ?_
  refine lv_istore (lv' := [(4, .int (uN un)), (0, .ref a0), (1, .int x1), (2, .int x2), (3, .int x3)]) hx hb dX7_add_4 hl (by decide) rfl (fun ls hl => ?_)
  refine lv_iload hx hb dX7_add_6 (lv_at hl 0 rfl) ?_
  refine lv_bipush (v := (16 : Int32)) hx hb dX7_add_8 (by decide) ?_
  refine lv_icmp_lt (tgt := 15) hx hb dX7_add_10 (by decide) (fun c_1 => ?_) (fun c_1 => ?_)
  · skip
    refine lv_aload_n hx hb dX7_add_15 rfl (lv_at hl 1 rfl) ?_
    refine va_get (D := D) (ci := 5) (v := .ref a1) (C := RX7) (T := TX7) (N := 6) hx hb hts in_X7 hown hG.1 hP 0 g_Un_0 rfl 0 (by decide) k_1 (fun _ h9 => h9) rfl dX7_add_16 ?_
    refine lv_iload hx hb dX7_add_19 (lv_at hl 0 rfl) ?_
    refine lv_iload_n hx hb dX7_add_21 rfl (lv_at hl 2 rfl) ?_
    refine va_iast hx hb hG.1 hP hD hS 1 0 (n := 16) (f := (uK un)) g_Un_1 rfl (bd_add hOK c_1) dX7_add_22 (fun H locs hP hD hS => ?_)
    have hP : va_P D vwCl (wUn cy a0 a1 a2 a3 a4 a5 (uK' un (upd (uK un) (uN un).toNatClampNeg x1))) H := va_P_eq hP s_Un_1
    have hD : va_D A (wUn cy a0 a1 a2 a3 a4 a5 (uK' un (upd (uK un) (uN un).toNatClampNeg x1))) := va_D_eq hD s_Un_1
    refine lv_aload_n hx hb dX7_add_23 rfl (lv_at hl 1 rfl) ?_
    refine va_get (D := D) (ci := 5) (v := .ref a4) (C := RX7) (T := TX7) (N := 6) hx hb hts in_X7 hown hG.1 hP 0 g_Un_0 rfl 3 (by decide) k_2 (fun _ h9 => h9) rfl dX7_add_24 ?_
    refine lv_iload hx hb dX7_add_27 (lv_at hl 0 rfl) ?_
    refine lv_iload_n hx hb dX7_add_29 rfl (lv_at hl 4 rfl) ?_
    refine va_iast hx hb hG.1 hP hD hS 4 0 (n := 16) (f := (uQ un)) g_Un_4 rfl (bd_add hOK c_1) dX7_add_30 (fun H locs hP hD hS => ?_)
    have hP : va_P D vwCl (wUn cy a0 a1 a2 a3 a4 a5 (uQ' (uK' un (upd (uK un) (uN un).toNatClampNeg x1)) (upd (uQ un) (uN un).toNatClampNeg x3))) H := va_P_eq hP s_Un_4
    have hD : va_D A (wUn cy a0 a1 a2 a3 a4 a5 (uQ' (uK' un (upd (uK un) (uN un).toNatClampNeg x1)) (upd (uQ un) (uN un).toNatClampNeg x3))) := va_D_eq hD s_Un_4
    refine lv_aload_n hx hb dX7_add_31 rfl (lv_at hl 1 rfl) ?_
    refine lv_dup hx hb dX7_add_32 rfl ?_
    refine va_get (D := D) (ci := 5) (v := .int (uN un)) (C := RX7) (T := TX7) (N := 6) hx hb hts in_X7 hown hG.1 hP 0 g_Un_0 rfl 5 (by decide) k_0 (fun _ h9 => h9) rfl dX7_add_33 ?_
    refine lv_iconst (v := (1 : Int32)) hx hb dX7_add_36 (by decide) ?_
    refine lv_iadd hx hb dX7_add_37 ?_
    refine va_put (D := D) (ci := 5) (v := .int ((uN un) + (1 : Int32))) (ty := .int) (C := RX7) (T := TX7) (N := 6) hx hb hts in_X7 tyX7 tyX7_ok nmX7 hown hG.1 hP hD hS 0 g_Un_0 rfl 5 (by decide) k_0 (fun _ h9 => h9) rfl (by decide +kernel) rfl rfl (Nat.le_of_ble_eq_true rfl) dX7_add_38 (fun H locs hP hD hS => ?_)
    have hP : va_P D vwCl (wUn cy a0 a1 a2 a3 a4 a5 (uN' (uQ' (uK' un (upd (uK un) (uN un).toNatClampNeg x1)) (upd (uQ un) (uN un).toNatClampNeg x3)) ((uN un) + (1 : Int32)))) H := va_P_eq hP s_Un_0_5
    have hD : va_D A (wUn cy a0 a1 a2 a3 a4 a5 (uN' (uQ' (uK' un (upd (uK un) (uN un).toNatClampNeg x1)) (upd (uQ un) (uN un).toNatClampNeg x3)) ((uN un) + (1 : Int32)))) := va_D_eq hD s_Un_0_5
    refine lv_aload_n hx hb dX7_add_41 rfl (lv_at hl 1 rfl) ?_
    refine lv_iload hx hb dX7_add_42 (lv_at hl 0 rfl) ?_
    refine lv_iload_n hx hb dX7_add_44 rfl (lv_at hl 3 rfl) ?_
    refine mvV (A0 := A) (wc := (wUn cy a0 a1 a2 a3 a4 a5 (uN' (uQ' (uK' un (upd (uK un) (uN un).toNatClampNeg x1)) (upd (uQ un) (uN un).toNatClampNeg x3)) ((uN un) + (1 : Int32))))) (As := [.int (uN un), .int x2]) (rest := []) (c_X7_giveTo l D cy a0 a1 a2 a3 a4 a5 (uN' (uQ' (uK' un (upd (uK un) (uN un).toNatClampNeg x1)) (upd (uQ un) (uN un).toNatClampNeg x3)) ((uN un) + (1 : Int32))) (uN un) x2 (ok_addN hOK c_1 rfl)) hCF gX7_add_X7_giveTo rfl hd_X7_giveTo ⟨rfl, rfl, Nat.le_of_ble_eq_true rfl, Nat.le_of_ble_eq_true rfl⟩ hG hP hD hS hA [0, 1, 2, 3, 4, 5] rfl c_Un_Un h_Un (ci := 5) rfl rfl g_Un_0 rfl hl.1 rfl (Nat.le_of_ble_eq_true rfl) dX7_add_45 ⟨Nat.le_refl _, Nat.le_refl _⟩ (fun H locs hP hD hS => ?_)
    have hP : va_P D vwCl (wUn cy a0 a1 a2 a3 a4 a5 (m_X7_giveTo (uN' (uQ' (uK' un (upd (uK un) (uN un).toNatClampNeg x1)) (upd (uQ un) (uN un).toNatClampNeg x3)) ((uN un) + (1 : Int32))) (uN un) x2)) H := va_P_eq hP r_Un_Un
    have hD : va_D A (wUn cy a0 a1 a2 a3 a4 a5 (m_X7_giveTo (uN' (uQ' (uK' un (upd (uK un) (uN un).toNatClampNeg x1)) (upd (uQ un) (uN un).toNatClampNeg x3)) ((uN un) + (1 : Int32))) (uN un) x2)) := va_D_eq hD r_Un_Un
    refine lv_iload hx hb dX7_add_48 (lv_at hl 0 rfl) ?_
    exact mu_iret hx hb hr hlocks hP hS dX7_add_50 (by rw [m_X7_add, if_pos c_1]) (by rw [m_X7_add, if_pos c_1])
  · skip
    refine lv_iconst (v := (-1 : Int32)) hx hb dX7_add_13 (by decide) ?_
    exact mu_iret hx hb hr hlocks hP hS dX7_add_14 (by rw [m_X7_add, if_neg c_1]) (by rw [m_X7_add, if_neg c_1])
