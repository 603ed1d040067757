def m_X0_hasRoom (co : CoT) (x1 : Int32) : Int32 := if (m_X8_isHolder x1) = (0 : Int32) then (0 : Int32) else if (6 : Int32) ≤ ((cC co) x1.toNatClampNeg) then (0 : Int32) else (1 : Int32)
theorem hd_X0_hasRoom : yX0_hasRoom.cls = RX0 ∧ yX0_hasRoom.cls ≠ "java/lang/invoke/MethodHandle" ∧ yX0_hasRoom.cls ≠ "java/lang/invoke/VarHandle" ∧ (parseMethodDescriptor yX0_hasRoom.desc).map (fun d => d.parameters.length) = some 1 := by decide +kernel
set_option maxHeartbeats 8000000 in
set_option maxRecDepth 20000 in
theorem c_X0_hasRoom (l : Launch) (D : va_G) (cy : Nat → ClassId) (a0 a1 a2 a3 : Nat) (co : CoT) (x1 : Int32) (hOK : coOK co) : RO l D cy yX0_hasRoom wsX0_hasRoom ({ frames := 1, cells := 0, slots := 0, locals := 20 } : Room) (wCo cy a0 a1 a2 a3 co) [.ref a0, .int x1] (m_X0_hasRoom co x1) := by
  refine RO.body (by decide) rfl (Nat.le_of_ble_eq_true rfl) ?_
  intro p e s m below meth c hx hb hml hr hts hown hlocks hP hG ls hl
  have hl : lv_has ls 2 [(0, .ref a0), (1, .int x1)] := hl
  have hCF : CallFix p m c cX0_hasRoom 2 s ([.ref a0, .int x1] : List Value).toArray wsX0_hasRoom RX0 := ⟨hx, hb, hml, hown, hts⟩
  have in_X0 : ∀ w ∈ u_ws RX0 TX0 3, w ∈ wsX0_hasRoom := fun _ h => List.mem_cons_of_mem _ (List.mem_append_right _ h)
  have k_0 := hts (Cond.initialized RX8) (List.mem_of_getElem? (i := 3) rfl)
  have k_1 := hts (Cond.static yX8_isHolder) (List.mem_of_getElem? (i := 2) rfl)
  have k_2 := hts (Cond.fieldLink RX0 18 "SparePool$Cores" "count" "[I") (List.mem_of_getElem? (i := 1) rfl)
  refine lv_iload_n hx hb dX0_hasRoom_0 rfl (lv_at hl 1 rfl) ?_
  refine roSN (wc := ([] : va_W)) (As := [.int x1]) (rest := []) (c_X8_isHolder l D cy x1) hCF gX0_hasRoom_X8_isHolder_n27 (nw_X0_27 hG.2) k_0 k_1 rfl hd_X8_isHolder.2 ⟨rfl, rfl, Nat.le_of_ble_eq_true rfl, Nat.le_of_ble_eq_true rfl⟩ hG va_P_nil rfl hl.1 rfl (Nat.le_of_ble_eq_true rfl) dX0_hasRoom_1 ⟨Nat.le_refl _, Nat.le_refl _⟩ ?_
  refine lv_if_eq (tgt := 22) hx hb dX0_hasRoom_4 (by decide) (fun c_1 => ?_) (fun c_1 => ?_)
  · skip
    refine lv_iconst (v := (0 : Int32)) hx hb dX0_hasRoom_22 (by decide) ?_
    exact ro_zret hx hb hr hlocks rfl dX0_hasRoom_23 (by rw [m_X0_hasRoom, if_pos c_1])
  · skip
    refine lv_aload_n hx hb dX0_hasRoom_7 rfl (lv_at hl 0 rfl) ?_
    refine va_get (D := D) (ci := 0) (v := .ref a3) (C := RX0) (T := TX0) (N := 3) hx hb hts in_X0 hown hG.1 hP 0 g_Co_0 rfl 2 (by decide) k_2 (fun _ h9 => h9) rfl dX0_hasRoom_8 ?_
    refine lv_iload_n hx hb dX0_hasRoom_11 rfl (lv_at hl 1 rfl) ?_
    refine va_iald hx hb hG.1 hP 3 0 (n := 5) (f := (cC co)) g_Co_3 rfl (bd_isHolder c_1) dX0_hasRoom_12 ?_
    refine lv_bipush (v := (6 : Int32)) hx hb dX0_hasRoom_13 (by decide) ?_
    refine lv_icmp_ge (tgt := 22) hx hb dX0_hasRoom_15 (by decide) (fun c_2 => ?_) (fun c_2 => ?_)
    · skip
      refine lv_iconst (v := (0 : Int32)) hx hb dX0_hasRoom_22 (by decide) ?_
      exact ro_zret hx hb hr hlocks rfl dX0_hasRoom_23 (by rw [m_X0_hasRoom, if_neg c_1, if_pos c_2])
    · skip
      refine lv_iconst (v := (1 : Int32)) hx hb dX0_hasRoom_18 (by decide) ?_
      refine lv_goto (tgt := 23) hx hb dX0_hasRoom_19 (by decide) ?_
      exact ro_zret hx hb hr hlocks rfl dX0_hasRoom_23 (by rw [m_X0_hasRoom, if_neg c_1, if_neg c_2])
theorem hs_hasRoom {co : CoT} {h : Int32} (c : ¬ m_X0_hasRoom co h = 0) : (¬ m_X8_isHolder h = 0) ∧ (cC co h.toNatClampNeg).toInt < 6 := by
  unfold m_X0_hasRoom at c
  split at c
  · exact absurd rfl c
  · rename_i h1
    split at c
    · exact absurd rfl c
    · rename_i h2
      rw [i32_le] at h2
      have : (6 : Int32).toInt = 6 := by decide
      exact ⟨h1, by omega⟩
theorem bd_hasRoomH {co : CoT} {h : Int32} (c : ¬ m_X0_hasRoom co h = 0) : vp_in h 5 := bd_isHolder (hs_hasRoom c).1
theorem tnc_lt {x : Int32} {n : Nat} (h0 : 0 ≤ x.toInt) (h1 : x.toInt < n) : x.toNatClampNeg < n := by
  have : x.toNatClampNeg = x.toInt.toNat := rfl
  omega
theorem co_at {h k : Int32} (h1 : 0 ≤ h.toInt ∧ h.toInt < 5) (h2 : 0 ≤ k.toInt) (h3 : k.toInt < 6) : (h * 6 + k).toInt = h.toInt * 6 + k.toInt := by
  have e6 : (6 : Int32).toInt = 6 := by decide
  have em : (h * 6).toInt = h.toInt * 6 := by rw [i32_mul (by rw [e6]; omega) (by rw [e6]; omega), e6]
  rw [i32_add (by rw [em]; omega) (by rw [em]; omega), em]
theorem bd_hasRoom {co : CoT} {h : Int32} (ok : coOK co) (c : ¬ m_X0_hasRoom co h = 0) : vp_in (h * 6 + cC co h.toNatClampNeg) 30 := by
  obtain ⟨h1, h2⟩ := hs_hasRoom c
  have h3 := hs_isHolder h1
  have h4 := ok _ (tnc_lt (n := 5) h3.1 h3.2)
  have h5 := co_at h3 h4.1 h2
  exact bd_of (by omega) (by omega)
def m_X0_owes (co : CoT) (x1 : Int32) (x2 : Int32) : Int32 := if (m_X8_isHolder x1) = (0 : Int32) then (0 : Int32) else if x2 < (0 : Int32) then (0 : Int32) else if ((cC co) x1.toNatClampNeg) ≤ x2 then (0 : Int32) else if (6 : Int32) ≤ x2 then (0 : Int32) else (1 : Int32)
theorem hd_X0_owes : yX0_owes.cls = RX0 ∧ yX0_owes.cls ≠ "java/lang/invoke/MethodHandle" ∧ yX0_owes.cls ≠ "java/lang/invoke/VarHandle" ∧ (parseMethodDescriptor yX0_owes.desc).map (fun d => d.parameters.length) = some 2 := by decide +kernel
set_option maxHeartbeats 8000000 in
set_option maxRecDepth 20000 in
theorem c_X0_owes (l : Launch) (D : va_G) (cy : Nat → ClassId) (a0 a1 a2 a3 : Nat) (co : CoT) (x1 : Int32) (x2 : Int32) (hOK : coOK co) : RO l D cy yX0_owes wsX0_owes ({ frames := 1, cells := 0, slots := 0, locals := 20 } : Room) (wCo cy a0 a1 a2 a3 co) [.ref a0, .int x1, .int x2] (m_X0_owes co x1 x2) := by
  refine RO.body (by decide) rfl (Nat.le_of_ble_eq_true rfl) ?_
  intro p e s m below meth c hx hb hml hr hts hown hlocks hP hG ls hl
  have hl : lv_has ls 3 [(0, .ref a0), (1, .int x1), (2, .int x2)] := hl
  have hCF : CallFix p m c cX0_owes 3 s ([.ref a0, .int x1, .int x2] : List Value).toArray wsX0_owes RX0 := ⟨hx, hb, hml, hown, hts⟩
  have in_X0 : ∀ w ∈ u_ws RX0 TX0 3, w ∈ wsX0_owes := fun _ h => List.mem_cons_of_mem _ (List.mem_append_right _ h)
  have k_0 := hts (Cond.initialized RX8) (List.mem_of_getElem? (i := 3) rfl)
  have k_1 := hts (Cond.static yX8_isHolder) (List.mem_of_getElem? (i := 2) rfl)
  have k_2 := hts (Cond.fieldLink RX0 18 "SparePool$Cores" "count" "[I") (List.mem_of_getElem? (i := 1) rfl)
  refine lv_iload_n hx hb dX0_owes_0 rfl (lv_at hl 1 rfl) ?_
  refine roSN (wc := ([] : va_W)) (As := [.int x1]) (rest := []) (c_X8_isHolder l D cy x1) hCF gX0_owes_X8_isHolder_n27 (nw_X0_27 hG.2) k_0 k_1 rfl hd_X8_isHolder.2 ⟨rfl, rfl, Nat.le_of_ble_eq_true rfl, Nat.le_of_ble_eq_true rfl⟩ hG va_P_nil rfl hl.1 rfl (Nat.le_of_ble_eq_true rfl) dX0_owes_1 ⟨Nat.le_refl _, Nat.le_refl _⟩ ?_
  refine lv_if_eq (tgt := 31) hx hb dX0_owes_4 (by decide) (fun c_1 => ?_) (fun c_1 => ?_)
  · skip
    refine lv_iconst (v := (0 : Int32)) hx hb dX0_owes_31 (by decide) ?_
    exact ro_zret hx hb hr hlocks rfl dX0_owes_32 (by rw [m_X0_owes, if_pos c_1])
  · skip
    refine lv_iload_n hx hb dX0_owes_7 rfl (lv_at hl 2 rfl) ?_
    refine lv_if_lt (tgt := 31) hx hb dX0_owes_8 (by decide) (fun c_2 => ?_) (fun c_2 => ?_)
    · skip
      refine lv_iconst (v := (0 : Int32)) hx hb dX0_owes_31 (by decide) ?_
      exact ro_zret hx hb hr hlocks rfl dX0_owes_32 (by rw [m_X0_owes, if_neg c_1, if_pos c_2])
    · skip
      refine lv_iload_n hx hb dX0_owes_11 rfl (lv_at hl 2 rfl) ?_
      refine lv_aload_n hx hb dX0_owes_12 rfl (lv_at hl 0 rfl) ?_
      refine va_get (D := D) (ci := 0) (v := .ref a3) (C := RX0) (T := TX0) (N := 3) hx hb hts in_X0 hown hG.1 hP 0 g_Co_0 rfl 2 (by decide) k_2 (fun _ h9 => h9) rfl dX0_owes_13 ?_
      refine lv_iload_n hx hb dX0_owes_16 rfl (lv_at hl 1 rfl) ?_
      refine va_iald hx hb hG.1 hP 3 0 (n := 5) (f := (cC co)) g_Co_3 rfl (bd_isHolder c_1) dX0_owes_17 ?_
      refine lv_icmp_ge (tgt := 31) hx hb dX0_owes_18 (by decide) (fun c_3 => ?_) (fun c_3 => ?_)
      · skip
        refine lv_iconst (v := (0 : Int32)) hx hb dX0_owes_31 (by decide) ?_
        exact ro_zret hx hb hr hlocks rfl dX0_owes_32 (by rw [m_X0_owes, if_neg c_1, if_neg c_2, if_pos c_3])
      · skip
        refine lv_iload_n hx hb dX0_owes_21 rfl (lv_at hl 2 rfl) ?_
        refine lv_bipush (v := (6 : Int32)) hx hb dX0_owes_22 (by decide) ?_
        refine lv_icmp_ge (tgt := 31) hx hb dX0_owes_24 (by decide) (fun c_4 => ?_) (fun c_4 => ?_)
        · skip
          refine lv_iconst (v := (0 : Int32)) hx hb dX0_owes_31 (by decide) ?_
          exact ro_zret hx hb hr hlocks rfl dX0_owes_32 (by rw [m_X0_owes, if_neg c_1, if_neg c_2, if_neg c_3, if_pos c_4])
        · skip
          refine lv_iconst (v := (1 : Int32)) hx hb dX0_owes_27 (by decide) ?_
          refine lv_goto (tgt := 32) hx hb dX0_owes_28 (by decide) ?_
          exact ro_zret hx hb hr hlocks rfl dX0_owes_32 (by rw [m_X0_owes, if_neg c_1, if_neg c_2, if_neg c_3, if_neg c_4])
theorem hs_owes {co : CoT} {h k : Int32} (c : ¬ m_X0_owes co h k = 0) : (¬ m_X8_isHolder h = 0) ∧ 0 ≤ k.toInt ∧ k.toInt < (cC co h.toNatClampNeg).toInt ∧ k.toInt < 6 := by
  unfold m_X0_owes at c
  split at c
  · exact absurd rfl c
  · rename_i h1
    split at c
    · exact absurd rfl c
    · rename_i h2
      split at c
      · exact absurd rfl c
      · rename_i h3
        split at c
        · exact absurd rfl c
        · rename_i h4
          rw [i32_lt, i32_0] at h2
          rw [i32_le] at h3 h4
          have : (6 : Int32).toInt = 6 := by decide
          exact ⟨h1, by omega, by omega, by omega⟩
theorem bd_owesH {co : CoT} {h k : Int32} (c : ¬ m_X0_owes co h k = 0) : vp_in h 5 := bd_isHolder (hs_owes c).1
theorem bd_owes {co : CoT} {h k : Int32} (_ok : coOK co) (c : ¬ m_X0_owes co h k = 0) : vp_in (h * 6 + k) 30 := by
  obtain ⟨h1, h2, h3, h4⟩ := hs_owes c
  have h5 := hs_isHolder h1
  have h6 := co_at h5 h2 h4
  exact bd_of (by omega) (by omega)
theorem rm_k0 {co : CoT} {h k : Int32} (c : ¬ m_X0_owes co h k = 0) : 0 ≤ k.toInt := (hs_owes c).2.1
theorem rm_init {co : CoT} {h k : Int32} (ok : coOK co) (c : ¬ m_X0_owes co h k = 0) : ((cC co h.toNatClampNeg).toInt - k.toInt).toNat < 100 := by
  obtain ⟨h1, h2, h3, h4⟩ := hs_owes c
  have h5 := hs_isHolder h1
  have h6 := ok _ (tnc_lt (n := 5) h5.1 h5.2)
  omega
theorem rm_s {i B : Int32} (h0 : 0 ≤ i.toInt) (h6 : i.toInt < 6) (c : ¬ B ≤ i + 1) : (i + 1).toInt = i.toInt + 1 ∧ i.toInt + 1 < B.toInt := by
  rw [i32_le] at c
  have e1 : (i + 1).toInt = i.toInt + 1 := by rw [i32_add (by rw [i32_1]; omega) (by rw [i32_1]; omega), i32_1]
  exact ⟨e1, by omega⟩
theorem rm_B {co : CoT} {h k : Int32} (ok : coOK co) (ho : ¬ m_X0_owes co h k = 0) : (cC co h.toNatClampNeg).toInt ≤ 6 := by
  have h5 := hs_isHolder (hs_owes ho).1
  exact (ok _ (tnc_lt (n := 5) h5.1 h5.2)).2
theorem rm_b0 {co : CoT} {h k i : Int32} (ho : ¬ m_X0_owes co h k = 0) (h0 : 0 ≤ i.toInt) (h6 : i.toInt < 6) : vp_in (h * 6 + i) 30 := by
  have h5 := hs_isHolder (hs_owes ho).1
  have h7 := co_at h5 h0 h6
  exact bd_of (by omega) (by omega)
theorem rm_b1 {co : CoT} {h k i : Int32} (ok : coOK co) (ho : ¬ m_X0_owes co h k = 0) (h0 : 0 ≤ i.toInt) (h6 : i.toInt < 6) (c : ¬ cC co h.toNatClampNeg ≤ i + 1) : vp_in (h * 6 + i + 1) 30 := by
  have h5 := hs_isHolder (hs_owes ho).1
  have h7 := co_at h5 h0 h6
  have hB := rm_B ok ho
  have h8 := rm_s h0 h6 c
  have e : (h * 6 + i + 1).toInt = (h * 6 + i).toInt + 1 := by rw [i32_add (by rw [i32_1, h7]; omega) (by rw [i32_1, h7]; omega), i32_1]
  exact bd_of (by omega) (by omega)
theorem rm_up {i B : Int32} (h0 : 0 ≤ i.toInt) (h6 : i.toInt < 6) (c : ¬ B ≤ i + 1) : 0 ≤ (i + 1).toInt := by
  rw [(rm_s h0 h6 c).1]; omega
theorem rm_up6 {co : CoT} {h k i : Int32} (ok : coOK co) (ho : ¬ m_X0_owes co h k = 0) (h0 : 0 ≤ i.toInt) (h6 : i.toInt < 6) (c : ¬ cC co h.toNatClampNeg ≤ i + 1) : (i + 1).toInt < 6 := by
  have hB := rm_B ok ho
  have := rm_s h0 h6 c
  omega
theorem rm_dec {i B : Int32} {n : Nat} (h0 : 0 ≤ i.toInt) (h6 : i.toInt < 6) (c : ¬ B ≤ i + 1) (hm : (B.toInt - i.toInt).toNat < n + 1) : (B.toInt - (i + 1).toInt).toNat < n := by
  have := rm_s h0 h6 c
  omega
def m_X0_kindOf (co : CoT) (x1 : Int32) (x2 : Int32) : Int32 := if (m_X0_owes co x1 x2) = (0 : Int32) then (-1 : Int32) else (cK co) ((x1 * (6 : Int32)) + x2).toNatClampNeg
theorem hd_X0_kindOf : yX0_kindOf.cls = RX0 ∧ yX0_kindOf.cls ≠ "java/lang/invoke/MethodHandle" ∧ yX0_kindOf.cls ≠ "java/lang/invoke/VarHandle" ∧ (parseMethodDescriptor yX0_kindOf.desc).map (fun d => d.parameters.length) = some 2 := by decide +kernel
set_option maxHeartbeats 8000000 in
set_option maxRecDepth 20000 in
theorem c_X0_kindOf (l : Launch) (D : va_G) (cy : Nat → ClassId) (a0 a1 a2 a3 : Nat) (co : CoT) (x1 : Int32) (x2 : Int32) (hOK : coOK co) : RO l D cy yX0_kindOf wsX0_kindOf ({ frames := 2, cells := 0, slots := 0, locals := 42 } : Room) (wCo cy a0 a1 a2 a3 co) [.ref a0, .int x1, .int x2] (m_X0_kindOf co x1 x2) := by
  refine RO.body (by decide) rfl (Nat.le_of_ble_eq_true rfl) ?_
  intro p e s m below meth c hx hb hml hr hts hown hlocks hP hG ls hl
  have hl : lv_has ls 3 [(0, .ref a0), (1, .int x1), (2, .int x2)] := hl
  have hCF : CallFix p m c cX0_kindOf 3 s ([.ref a0, .int x1, .int x2] : List Value).toArray wsX0_kindOf RX0 := ⟨hx, hb, hml, hown, hts⟩
  have in_X0 : ∀ w ∈ u_ws RX0 TX0 3, w ∈ wsX0_kindOf := fun _ h => List.mem_cons_of_mem _ (List.mem_append_right _ h)
  have k_0 := hts (Cond.fieldLink RX0 9 "SparePool$Cores" "kind" "[I") (List.mem_of_getElem? (i := 1) rfl)
  refine lv_aload_n hx hb dX0_kindOf_0 rfl (lv_at hl 0 rfl) ?_
  refine lv_iload_n hx hb dX0_kindOf_1 rfl (lv_at hl 1 rfl) ?_
  refine lv_iload_n hx hb dX0_kindOf_2 rfl (lv_at hl 2 rfl) ?_
  refine roV (wc := (wCo cy a0 a1 a2 a3 co)) (As := [.int x1, .int x2]) (rest := []) (c_X0_owes l D cy a0 a1 a2 a3 co x1 x2 hOK) hCF gX0_kindOf_X0_owes rfl hd_X0_owes ⟨rfl, rfl, Nat.le_of_ble_eq_true rfl, Nat.le_of_ble_eq_true rfl⟩ hG hP (ci := 0) rfl rfl g_Co_0 rfl hl.1 rfl (Nat.le_of_ble_eq_true rfl) dX0_kindOf_3 ⟨Nat.le_refl _, Nat.le_refl _⟩ ?_
  refine lv_if_eq (tgt := 23) hx hb dX0_kindOf_6 (by decide) (fun c_1 => ?_) (fun c_1 => ?_)
  · skip
    refine lv_iconst (v := (-1 : Int32)) hx hb dX0_kindOf_23 (by decide) ?_
    exact ro_iret hx hb hr hlocks dX0_kindOf_24 (by rw [m_X0_kindOf, if_pos c_1])
  · skip
    refine lv_aload_n hx hb dX0_kindOf_9 rfl (lv_at hl 0 rfl) ?_
    refine va_get (D := D) (ci := 0) (v := .ref a1) (C := RX0) (T := TX0) (N := 3) hx hb hts in_X0 hown hG.1 hP 0 g_Co_0 rfl 0 (by decide) k_0 (fun _ h9 => h9) rfl dX0_kindOf_10 ?_
    refine lv_iload_n hx hb dX0_kindOf_13 rfl (lv_at hl 1 rfl) ?_
    refine lv_bipush (v := (6 : Int32)) hx hb dX0_kindOf_14 (by decide) ?_
    refine lv_imul hx hb dX0_kindOf_16 ?_
    refine lv_iload_n hx hb dX0_kindOf_17 rfl (lv_at hl 2 rfl) ?_
    refine lv_iadd hx hb dX0_kindOf_18 ?_
    refine va_iald hx hb hG.1 hP 1 0 (n := 30) (f := (cK co)) g_Co_1 rfl (bd_owes hOK c_1) dX0_kindOf_19 ?_
    refine lv_goto (tgt := 24) hx hb dX0_kindOf_20 (by decide) ?_
    exact ro_iret hx hb hr hlocks dX0_kindOf_24 (by rw [m_X0_kindOf, if_neg c_1])
def m_X0_dueOf (co : CoT) (x1 : Int32) (x2 : Int32) : Int32 := if (m_X0_owes co x1 x2) = (0 : Int32) then (-1 : Int32) else (cD co) ((x1 * (6 : Int32)) + x2).toNatClampNeg
theorem hd_X0_dueOf : yX0_dueOf.cls = RX0 ∧ yX0_dueOf.cls ≠ "java/lang/invoke/MethodHandle" ∧ yX0_dueOf.cls ≠ "java/lang/invoke/VarHandle" ∧ (parseMethodDescriptor yX0_dueOf.desc).map (fun d => d.parameters.length) = some 2 := by decide +kernel
set_option maxHeartbeats 8000000 in
set_option maxRecDepth 20000 in
theorem c_X0_dueOf (l : Launch) (D : va_G) (cy : Nat → ClassId) (a0 a1 a2 a3 : Nat) (co : CoT) (x1 : Int32) (x2 : Int32) (hOK : coOK co) : RO l D cy yX0_dueOf wsX0_dueOf ({ frames := 2, cells := 0, slots := 0, locals := 42 } : Room) (wCo cy a0 a1 a2 a3 co) [.ref a0, .int x1, .int x2] (m_X0_dueOf co x1 x2) := by
  refine RO.body (by decide) rfl (Nat.le_of_ble_eq_true rfl) ?_
  intro p e s m below meth c hx hb hml hr hts hown hlocks hP hG ls hl
  have hl : lv_has ls 3 [(0, .ref a0), (1, .int x1), (2, .int x2)] := hl
  have hCF : CallFix p m c cX0_dueOf 3 s ([.ref a0, .int x1, .int x2] : List Value).toArray wsX0_dueOf RX0 := ⟨hx, hb, hml, hown, hts⟩
  have in_X0 : ∀ w ∈ u_ws RX0 TX0 3, w ∈ wsX0_dueOf := fun _ h => List.mem_cons_of_mem _ (List.mem_append_right _ h)
  have k_0 := hts (Cond.fieldLink RX0 15 "SparePool$Cores" "due" "[I") (List.mem_of_getElem? (i := 1) rfl)
  refine lv_aload_n hx hb dX0_dueOf_0 rfl (lv_at hl 0 rfl) ?_
  refine lv_iload_n hx hb dX0_dueOf_1 rfl (lv_at hl 1 rfl) ?_
  refine lv_iload_n hx hb dX0_dueOf_2 rfl (lv_at hl 2 rfl) ?_
  refine roV (wc := (wCo cy a0 a1 a2 a3 co)) (As := [.int x1, .int x2]) (rest := []) (c_X0_owes l D cy a0 a1 a2 a3 co x1 x2 hOK) hCF gX0_dueOf_X0_owes rfl hd_X0_owes ⟨rfl, rfl, Nat.le_of_ble_eq_true rfl, Nat.le_of_ble_eq_true rfl⟩ hG hP (ci := 0) rfl rfl g_Co_0 rfl hl.1 rfl (Nat.le_of_ble_eq_true rfl) dX0_dueOf_3 ⟨Nat.le_refl _, Nat.le_refl _⟩ ?_
  refine lv_if_eq (tgt := 23) hx hb dX0_dueOf_6 (by decide) (fun c_1 => ?_) (fun c_1 => ?_)
  · skip
    refine lv_iconst (v := (-1 : Int32)) hx hb dX0_dueOf_23 (by decide) ?_
    exact ro_iret hx hb hr hlocks dX0_dueOf_24 (by rw [m_X0_dueOf, if_pos c_1])
  · skip
    refine lv_aload_n hx hb dX0_dueOf_9 rfl (lv_at hl 0 rfl) ?_
    refine va_get (D := D) (ci := 0) (v := .ref a2) (C := RX0) (T := TX0) (N := 3) hx hb hts in_X0 hown hG.1 hP 0 g_Co_0 rfl 1 (by decide) k_0 (fun _ h9 => h9) rfl dX0_dueOf_10 ?_
    refine lv_iload_n hx hb dX0_dueOf_13 rfl (lv_at hl 1 rfl) ?_
    refine lv_bipush (v := (6 : Int32)) hx hb dX0_dueOf_14 (by decide) ?_
    refine lv_imul hx hb dX0_dueOf_16 ?_
    refine lv_iload_n hx hb dX0_dueOf_17 rfl (lv_at hl 2 rfl) ?_
    refine lv_iadd hx hb dX0_dueOf_18 ?_
    refine va_iald hx hb hG.1 hP 2 0 (n := 30) (f := (cD co)) g_Co_2 rfl (bd_owes hOK c_1) dX0_dueOf_19 ?_
    refine lv_goto (tgt := 24) hx hb dX0_dueOf_20 (by decide) ?_
    exact ro_iret hx hb hr hlocks dX0_dueOf_24 (by rw [m_X0_dueOf, if_neg c_1])
def m_X0_oldest_L2 : Nat → CoT → Int32 → Int32 → Int32 → Int32
  | 0, _, _, _, _ => 0
  | nF + 1, co, x1, x2, k => if (6 : Int32) ≤ k then (-1 : Int32) else if (m_X0_kindOf co x1 k) = x2 then k else m_X0_oldest_L2 nF co x1 x2 (k + (1 : Int32))
def m_X0_oldest (co : CoT) (x1 : Int32) (x2 : Int32) : Int32 := m_X0_oldest_L2 100 co x1 x2 (0 : Int32)
theorem hd_X0_oldest : yX0_oldest.cls = RX0 ∧ yX0_oldest.cls ≠ "java/lang/invoke/MethodHandle" ∧ yX0_oldest.cls ≠ "java/lang/invoke/VarHandle" ∧ (parseMethodDescriptor yX0_oldest.desc).map (fun d => d.parameters.length) = some 2 := by decide +kernel
set_option maxHeartbeats 8000000 in
set_option maxRecDepth 20000 in
theorem c_X0_oldest (l : Launch) (D : va_G) (cy : Nat → ClassId) (a0 a1 a2 a3 : Nat) (co : CoT) (x1 : Int32) (x2 : Int32) (hOK : coOK co) : RO l D cy yX0_oldest wsX0_oldest ({ frames := 3, cells := 0, slots := 0, locals := 64 } : Room) (wCo cy a0 a1 a2 a3 co) [.ref a0, .int x1, .int x2] (m_X0_oldest co x1 x2) := by
  refine RO.body (by decide) rfl (Nat.le_of_ble_eq_true rfl) ?_
  intro p e s m below meth c hx hb hml hr hts hown hlocks hP hG ls hl
  have hl : lv_has ls 4 [(0, .ref a0), (1, .int x1), (2, .int x2)] := hl
  have hCF : CallFix p m c cX0_oldest 4 s ([.ref a0, .int x1, .int x2] : List Value).toArray wsX0_oldest RX0 := ⟨hx, hb, hml, hown, hts⟩
  have L_2 : ∀ (nF : Nat) (k : Int32), 0 ≤ k.toInt → ((6 : Int32).toInt - k.toInt).toNat < nF → m_X0_oldest_L2 nF co x1 x2 k = (m_X0_oldest co x1 x2) → ∀ ls : Array Slot, lv_has ls 4 [(0, .ref a0), (1, .int x1), (2, .int x2), (3, .int k)] → W p l e ({ frames := 3, cells := 0, slots := 0, locals := 64 } : Room) s m ([.ref a0, .int x1, .int x2] : List Value).toArray below meth c s.heap [] 0 0 (MQ below (vp_Si (fun v_ => v_ = (m_X0_oldest co x1 x2))) ([.ref a0, .int x1, .int x2] : List Value).toArray s 0 0 (fun _ => False)) (F0 m 2 ls []) := by
    intro nF
    induction nF with
    | zero => intro k h0 hm; exact absurd hm (Nat.not_lt_zero _)
    | succ nF ih =>
      intro k h0 hm hQ ls hl
      refine lv_iload_n hx hb dX0_oldest_2 rfl (lv_at hl 3 rfl) ?_
      refine lv_bipush (v := (6 : Int32)) hx hb dX0_oldest_3 (by decide) ?_
      refine lv_icmp_ge (tgt := 26) hx hb dX0_oldest_5 (by decide) (fun c_1 => ?_) (fun c_1 => ?_)
      · skip
        refine lv_iconst (v := (-1 : Int32)) hx hb dX0_oldest_26 (by decide) ?_
        exact ro_iret hx hb hr hlocks dX0_oldest_27 (by rw [← hQ, m_X0_oldest_L2, if_pos c_1])
      · skip
        refine lv_aload_n hx hb dX0_oldest_8 rfl (lv_at hl 0 rfl) ?_
        refine lv_iload_n hx hb dX0_oldest_9 rfl (lv_at hl 1 rfl) ?_
        refine lv_iload_n hx hb dX0_oldest_10 rfl (lv_at hl 3 rfl) ?_
        refine roV (wc := (wCo cy a0 a1 a2 a3 co)) (As := [.int x1, .int k]) (rest := []) (c_X0_kindOf l D cy a0 a1 a2 a3 co x1 k hOK) hCF gX0_oldest_X0_kindOf rfl hd_X0_kindOf ⟨rfl, rfl, Nat.le_of_ble_eq_true rfl, Nat.le_of_ble_eq_true rfl⟩ hG hP (ci := 0) rfl rfl g_Co_0 rfl hl.1 rfl (Nat.le_of_ble_eq_true rfl) dX0_oldest_11 ⟨Nat.le_refl _, Nat.le_refl _⟩ ?_
        refine lv_iload_n hx hb dX0_oldest_14 rfl (lv_at hl 2 rfl) ?_
        refine lv_icmp_ne (tgt := 20) hx hb dX0_oldest_15 (by decide) (fun c_2 => ?_) (fun c_2 => ?_)
        · skip
          refine lv_iinc (v := (k + (1 : Int32))) (lv' := [(3, .int (k + (1 : Int32))), (0, .ref a0), (1, .int x1), (2, .int x2)]) hx hb dX0_oldest_20 hl (k := 3) rfl rfl (by decide) rfl (fun ls hl => ?_)
          refine lv_goto (tgt := 2) hx hb dX0_oldest_23 (by decide) ?_
          exact ih  (k + (1 : Int32)) (lp_up h0 c_1) (lp_dec h0 c_1 hm) (by rw [← hQ, m_X0_oldest_L2, if_neg c_1, if_neg c_2]) ls (lv_sub hl [1, 2, 3, 0] rfl)
        · skip
          refine lv_iload_n hx hb dX0_oldest_18 rfl (lv_at hl 3 rfl) ?_
          exact ro_iret hx hb hr hlocks dX0_oldest_19 (by rw [← hQ, m_X0_oldest_L2, if_neg c_1, if_pos c_2])
  refine lv_iconst (v := (0 : Int32)) hx hb dX0_oldest_0 (by decide) ?_
  refine lv_istore_n (lv' := [(3, .int (0 : Int32)), (0, .ref a0), (1, .int x1), (2, .int x2)]) hx hb dX0_oldest_1 rfl hl (by decide) rfl (fun ls hl => ?_)
  exact L_2 100 (0 : Int32) (by decide) (lp_init (M := 6) (by decide) (by decide)) (by rw [m_X0_oldest]) ls (lv_sub hl [1, 2, 3, 0] rfl)
def m_X0_add (co : CoT) (x1 : Int32) (x2 : Int32) (x3 : Int32) : CoT := if (m_X0_hasRoom co x1) = (0 : Int32) then co else cC' (cD' (cK' co (upd (cK co) ((x1 * (6 : Int32)) + ((cC co) x1.toNatClampNeg)).toNatClampNeg x2)) (upd (cD co) ((x1 * (6 : Int32)) + ((cC co) x1.toNatClampNeg)).toNatClampNeg x3)) (upd (cC co) x1.toNatClampNeg (((cC co) x1.toNatClampNeg) + (1 : Int32)))
theorem hd_X0_add : yX0_add.cls = RX0 ∧ yX0_add.cls ≠ "java/lang/invoke/MethodHandle" ∧ yX0_add.cls ≠ "java/lang/invoke/VarHandle" ∧ (parseMethodDescriptor yX0_add.desc).map (fun d => d.parameters.length) = some 3 := by decide +kernel
set_option maxHeartbeats 8000000 in
set_option maxRecDepth 20000 in
theorem c_X0_add (l : Launch) (D : va_G) (cy : Nat → ClassId) (a0 a1 a2 a3 : Nat) (co : CoT) (x1 : Int32) (x2 : Int32) (x3 : Int32) (hOK : coOK co) : MV l D cy yX0_add wsX0_add ({ frames := 2, cells := 0, slots := 0, locals := 41 } : Room) (wCo cy a0 a1 a2 a3 co) (wCo cy a0 a1 a2 a3 (m_X0_add co x1 x2 x3)) [.ref a0, .int x1, .int x2, .int x3] := by
  refine MV.body (by decide) rfl (Nat.le_of_ble_eq_true rfl) ?_
  intro p e s m below meth c hx hb hml hr hts hown hlocks hP hG ls hl A hD hA hS
  have hl : lv_has ls 5 [(0, .ref a0), (1, .int x1), (2, .int x2), (3, .int x3)] := hl
  have hCF : CallFix p m c cX0_add 5 s ([.ref a0, .int x1, .int x2, .int x3] : List Value).toArray wsX0_add RX0 := ⟨hx, hb, hml, hown, hts⟩
  have in_X0 : ∀ w ∈ u_ws RX0 TX0 3, w ∈ wsX0_add := fun _ h => List.mem_cons_of_mem _ (List.mem_append_right _ h)
  have k_0 := hts (Cond.fieldLink RX0 18 "SparePool$Cores" "count" "[I") (List.mem_of_getElem? (i := 1) rfl)
  have k_1 := hts (Cond.fieldLink RX0 9 "SparePool$Cores" "kind" "[I") (List.mem_of_getElem? (i := 2) rfl)
  have k_2 := hts (Cond.fieldLink RX0 15 "SparePool$Cores" "due" "[I") (List.mem_of_getElem? (i := 3) rfl)
  have hP : va_P D vwCl (wCo cy a0 a1 a2 a3 co) s.heap := hP
  refine lv_aload_n hx hb dX0_add_0 rfl (lv_at hl 0 rfl) ?_
  refine lv_iload_n hx hb dX0_add_1 rfl (lv_at hl 1 rfl) ?_
  refine roV (wc := (wCo cy a0 a1 a2 a3 co)) (As := [.int x1]) (rest := []) (c_X0_hasRoom l D cy a0 a1 a2 a3 co x1 hOK) hCF gX0_add_X0_hasRoom rfl hd_X0_hasRoom ⟨rfl, rfl, Nat.le_of_ble_eq_true rfl, Nat.le_of_ble_eq_true rfl⟩ hG hP (ci := 0) rfl rfl g_Co_0 rfl hl.1 rfl (Nat.le_of_ble_eq_true rfl) dX0_add_2 ⟨Nat.le_refl _, Nat.le_refl _⟩ ?_
  refine lv_if_eq (tgt := 47) hx hb dX0_add_5 (by decide) (fun c_1 => ?_) (fun c_1 => ?_)
  · skip
    exact mu_vret hx hb hr hlocks hP hS dX0_add_47 (by rw [m_X0_add, if_pos c_1])
  · skip
    refine lv_iload_n hx hb dX0_add_8 rfl (lv_at hl 1 rfl) ?_
    refine lv_bipush (v := (6 : Int32)) hx hb dX0_add_9 (by decide) ?_
    refine lv_imul hx hb dX0_add_11 ?_
    refine lv_aload_n hx hb dX0_add_12 rfl (lv_at hl 0 rfl) ?_
    refine va_get (D := D) (ci := 0) (v := .ref a3) (C := RX0) (T := TX0) (N := 3) hx hb hts in_X0 hown hG.1 hP 0 g_Co_0 rfl 2 (by decide) k_0 (fun _ h9 => h9) rfl dX0_add_13 ?_
    refine lv_iload_n hx hb dX0_add_16 rfl (lv_at hl 1 rfl) ?_
    refine va_iald hx hb hG.1 hP 3 0 (n := 5) (f := (cC co)) g_Co_3 rfl (bd_hasRoomH c_1) dX0_add_17 ?_
    refine lv_iadd hx hb dX0_add_18 ?_
    refine lv_istore (lv' := [(4, .int ((x1 * (6 : Int32)) + ((cC co) x1.toNatClampNeg))), (0, .ref a0), (1, .int x1), (2, .int x2), (3, .int x3)]) hx hb dX0_add_19 hl (by decide) rfl (fun ls hl => ?_)
    refine lv_aload_n hx hb dX0_add_21 rfl (lv_at hl 1 rfl) ?_
    refine va_get (D := D) (ci := 0) (v := .ref a1) (C := RX0) (T := TX0) (N := 3) hx hb hts in_X0 hown hG.1 hP 0 g_Co_0 rfl 0 (by decide) k_1 (fun _ h9 => h9) rfl dX0_add_22 ?_
    refine lv_iload hx hb dX0_add_25 (lv_at hl 0 rfl) ?_
    refine lv_iload_n hx hb dX0_add_27 rfl (lv_at hl 3 rfl) ?_
    refine va_iast hx hb hG.1 hP hD hS 1 0 (n := 30) (f := (cK co)) g_Co_1 rfl (bd_hasRoom hOK c_1) dX0_add_28 (fun H locs hP hD hS => ?_)
    have hP : va_P D vwCl (wCo cy a0 a1 a2 a3 (cK' co (upd (cK co) ((x1 * (6 : Int32)) + ((cC co) x1.toNatClampNeg)).toNatClampNeg x2))) H := va_P_eq hP s_Co_1
    have hD : va_D A (wCo cy a0 a1 a2 a3 (cK' co (upd (cK co) ((x1 * (6 : Int32)) + ((cC co) x1.toNatClampNeg)).toNatClampNeg x2))) := va_D_eq hD s_Co_1
    refine lv_aload_n hx hb dX0_add_29 rfl (lv_at hl 1 rfl) ?_
    refine va_get (D := D) (ci := 0) (v := .ref a2) (C := RX0) (T := TX0) (N := 3) hx hb hts in_X0 hown hG.1 hP 0 g_Co_0 rfl 1 (by decide) k_2 (fun _ h9 => h9) rfl dX0_add_30 ?_
    refine lv_iload hx hb dX0_add_33 (lv_at hl 0 rfl) ?_
    refine lv_iload_n hx hb dX0_add_35 rfl (lv_at hl 4 rfl) ?_
    refine va_iast hx hb hG.1 hP hD hS 2 0 (n := 30) (f := (cD co)) g_Co_2 rfl (bd_hasRoom hOK c_1) dX0_add_36 (fun H locs hP hD hS => ?_)
    have hP : va_P D vwCl (wCo cy a0 a1 a2 a3 (cD' (cK' co (upd (cK co) ((x1 * (6 : Int32)) + ((cC co) x1.toNatClampNeg)).toNatClampNeg x2)) (upd (cD co) ((x1 * (6 : Int32)) + ((cC co) x1.toNatClampNeg)).toNatClampNeg x3))) H := va_P_eq hP s_Co_2
    have hD : va_D A (wCo cy a0 a1 a2 a3 (cD' (cK' co (upd (cK co) ((x1 * (6 : Int32)) + ((cC co) x1.toNatClampNeg)).toNatClampNeg x2)) (upd (cD co) ((x1 * (6 : Int32)) + ((cC co) x1.toNatClampNeg)).toNatClampNeg x3))) := va_D_eq hD s_Co_2
    refine lv_aload_n hx hb dX0_add_37 rfl (lv_at hl 1 rfl) ?_
    refine va_get (D := D) (ci := 0) (v := .ref a3) (C := RX0) (T := TX0) (N := 3) hx hb hts in_X0 hown hG.1 hP 0 g_Co_0 rfl 2 (by decide) k_0 (fun _ h9 => h9) rfl dX0_add_38 ?_
    refine lv_iload_n hx hb dX0_add_41 rfl (lv_at hl 2 rfl) ?_
    refine lv_dup2_11 hx hb dX0_add_42 rfl rfl ?_
    refine va_iald hx hb hG.1 hP 3 0 (n := 5) (f := (cC co)) g_Co_3 rfl (bd_hasRoomH c_1) dX0_add_43 ?_
    refine lv_iconst (v := (1 : Int32)) hx hb dX0_add_44 (by decide) ?_
    refine lv_iadd hx hb dX0_add_45 ?_
    refine va_iast hx hb hG.1 hP hD hS 3 0 (n := 5) (f := (cC co)) g_Co_3 rfl (bd_hasRoomH c_1) dX0_add_46 (fun H locs hP hD hS => ?_)
    have hP : va_P D vwCl (wCo cy a0 a1 a2 a3 (cC' (cD' (cK' co (upd (cK co) ((x1 * (6 : Int32)) + ((cC co) x1.toNatClampNeg)).toNatClampNeg x2)) (upd (cD co) ((x1 * (6 : Int32)) + ((cC co) x1.toNatClampNeg)).toNatClampNeg x3)) (upd (cC co) x1.toNatClampNeg (((cC co) x1.toNatClampNeg) + (1 : Int32))))) H := va_P_eq hP s_Co_3
    have hD : va_D A (wCo cy a0 a1 a2 a3 (cC' (cD' (cK' co (upd (cK co) ((x1 * (6 : Int32)) + ((cC co) x1.toNatClampNeg)).toNatClampNeg x2)) (upd (cD co) ((x1 * (6 : Int32)) + ((cC co) x1.toNatClampNeg)).toNatClampNeg x3)) (upd (cC co) x1.toNatClampNeg (((cC co) x1.toNatClampNeg) + (1 : Int32))))) := va_D_eq hD s_Co_3
    exact mu_vret hx hb hr hlocks hP hS dX0_add_47 (by rw [m_X0_add, if_neg c_1])
def m_X0_remove_L12 : Nat → CoT → Int32 → Int32 → Int32 → CoT
  | 0, r, _, _, _ => r
  | nF + 1, r, x1, x2, i => if ((cC r) x1.toNatClampNeg) ≤ (i + (1 : Int32)) then cC' r (upd (cC r) x1.toNatClampNeg (((cC r) x1.toNatClampNeg) - (1 : Int32))) else m_X0_remove_L12 nF (cD' (cK' r (upd (cK r) ((x1 * (6 : Int32)) + i).toNatClampNeg ((cK r) (((x1 * (6 : Int32)) + i) + (1 : Int32)).toNatClampNeg))) (upd (cD r) ((x1 * (6 : Int32)) + i).toNatClampNeg ((cD r) (((x1 * (6 : Int32)) + i) + (1 : Int32)).toNatClampNeg))) x1 x2 (i + (1 : Int32))
def m_X0_remove (co : CoT) (x1 : Int32) (x2 : Int32) : CoT := if (m_X0_owes co x1 x2) = (0 : Int32) then co else m_X0_remove_L12 100 co x1 x2 x2
theorem hd_X0_remove : yX0_remove.cls = RX0 ∧ yX0_remove.cls ≠ "java/lang/invoke/MethodHandle" ∧ yX0_remove.cls ≠ "java/lang/invoke/VarHandle" ∧ (parseMethodDescriptor yX0_remove.desc).map (fun d => d.parameters.length) = some 2 := by decide +kernel
set_option maxHeartbeats 8000000 in
set_option maxRecDepth 20000 in
theorem c_X0_remove (l : Launch) (D : va_G) (cy : Nat → ClassId) (a0 a1 a2 a3 : Nat) (co : CoT) (x1 : Int32) (x2 : Int32) (hOK : coOK co) : MV l D cy yX0_remove wsX0_remove ({ frames := 2, cells := 0, slots := 0, locals := 42 } : Room) (wCo cy a0 a1 a2 a3 co) (wCo cy a0 a1 a2 a3 (m_X0_remove co x1 x2)) [.ref a0, .int x1, .int x2] := by
  refine MV.body (by decide) rfl (Nat.le_of_ble_eq_true rfl) ?_
  intro p e s m below meth c hx hb hml hr hts hown hlocks hP hG ls hl A hD hA hS
  have hl : lv_has ls 5 [(0, .ref a0), (1, .int x1), (2, .int x2)] := hl
  have hCF : CallFix p m c cX0_remove 5 s ([.ref a0, .int x1, .int x2] : List Value).toArray wsX0_remove RX0 := ⟨hx, hb, hml, hown, hts⟩
  have in_X0 : ∀ w ∈ u_ws RX0 TX0 3, w ∈ wsX0_remove := fun _ h => List.mem_cons_of_mem _ (List.mem_append_right _ h)
  have k_0 := hts (Cond.fieldLink RX0 18 "SparePool$Cores" "count" "[I") (List.mem_of_getElem? (i := 1) rfl)
  have k_1 := hts (Cond.fieldLink RX0 9 "SparePool$Cores" "kind" "[I") (List.mem_of_getElem? (i := 2) rfl)
  have k_2 := hts (Cond.fieldLink RX0 15 "SparePool$Cores" "due" "[I") (List.mem_of_getElem? (i := 3) rfl)
  have hP : va_P D vwCl (wCo cy a0 a1 a2 a3 co) s.heap := hP
  have L_12 : ∀ (nF : Nat) (r : CoT) (i : Int32), 0 ≤ i.toInt → i.toInt < 6 → cC r = cC co → ¬ m_X0_owes co x1 x2 = 0 → ((cC co x1.toNatClampNeg).toInt - i.toInt).toNat < nF → m_X0_remove_L12 nF r x1 x2 i = (m_X0_remove co x1 x2) → ∀ (H : Heap) (locs : List Loc), va_P D vwCl (wCo cy a0 a1 a2 a3 r) H → va_D A (wCo cy a0 a1 a2 a3 r) → va_S A s.heap H locs → ∀ ls : Array Slot, lv_has ls 5 [(0, .ref a0), (1, .int x1), (2, .int x2), (3, .int i)] → W p l e ({ frames := 2, cells := 0, slots := 0, locals := 42 } : Room) s m ([.ref a0, .int x1, .int x2] : List Value).toArray below meth c H locs 0 0 (MQ below (va_Qv (fun (_ : Unit) => True) (fun _ t => va_P D vwCl (wCo cy a0 a1 a2 a3 (m_X0_remove co x1 x2)) t.heap) A) ([.ref a0, .int x1, .int x2] : List Value).toArray s 0 0 A) (F0 m 12 ls []) := by
    intro nF
    induction nF with
    | zero => intro r i h0 h6 hc ho hm; exact absurd hm (Nat.not_lt_zero _)
    | succ nF ih =>
      intro r i h0 h6 hc ho hm hQ H locs hP hD hS ls hl
      refine lv_iload_n hx hb dX0_remove_12 rfl (lv_at hl 3 rfl) ?_
      refine lv_iconst (v := (1 : Int32)) hx hb dX0_remove_13 (by decide) ?_
      refine lv_iadd hx hb dX0_remove_14 ?_
      refine lv_aload_n hx hb dX0_remove_15 rfl (lv_at hl 0 rfl) ?_
      refine va_get (D := D) (ci := 0) (v := .ref a3) (C := RX0) (T := TX0) (N := 3) hx hb hts in_X0 hown hG.1 hP 0 g_Co_0 rfl 2 (by decide) k_0 (fun _ h9 => h9) rfl dX0_remove_16 ?_
      refine lv_iload_n hx hb dX0_remove_19 rfl (lv_at hl 1 rfl) ?_
      refine va_iald hx hb hG.1 hP 3 0 (n := 5) (f := (cC r)) g_Co_3 rfl (bd_owesH ho) dX0_remove_20 ?_
      refine lv_icmp_ge (tgt := 70) hx hb dX0_remove_21 (by decide) (fun c_1 => ?_) (fun c_1 => ?_)
      · skip
        refine lv_aload_n hx hb dX0_remove_70 rfl (lv_at hl 0 rfl) ?_
        refine va_get (D := D) (ci := 0) (v := .ref a3) (C := RX0) (T := TX0) (N := 3) hx hb hts in_X0 hown hG.1 hP 0 g_Co_0 rfl 2 (by decide) k_0 (fun _ h9 => h9) rfl dX0_remove_71 ?_
        refine lv_iload_n hx hb dX0_remove_74 rfl (lv_at hl 1 rfl) ?_
        refine lv_dup2_11 hx hb dX0_remove_75 rfl rfl ?_
        refine va_iald hx hb hG.1 hP 3 0 (n := 5) (f := (cC r)) g_Co_3 rfl (bd_owesH ho) dX0_remove_76 ?_
        refine lv_iconst (v := (1 : Int32)) hx hb dX0_remove_77 (by decide) ?_
        refine lv_isub hx hb dX0_remove_78 ?_
        refine va_iast hx hb hG.1 hP hD hS 3 0 (n := 5) (f := (cC r)) g_Co_3 rfl (bd_owesH ho) dX0_remove_79 (fun H locs hP hD hS => ?_)
        have hP : va_P D vwCl (wCo cy a0 a1 a2 a3 (cC' r (upd (cC r) x1.toNatClampNeg (((cC r) x1.toNatClampNeg) - (1 : Int32))))) H := va_P_eq hP s_Co_3
        have hD : va_D A (wCo cy a0 a1 a2 a3 (cC' r (upd (cC r) x1.toNatClampNeg (((cC r) x1.toNatClampNeg) - (1 : Int32))))) := va_D_eq hD s_Co_3
        exact mu_vret hx hb hr hlocks hP hS dX0_remove_80 (by rw [← hQ, m_X0_remove_L12, if_pos c_1])
      · skip
        refine lv_iload_n hx hb dX0_remove_24 rfl (lv_at hl 1 rfl) ?_
        refine lv_bipush (v := (6 : Int32)) hx hb dX0_remove_25 (by decide) ?_
        refine lv_imul hx hb dX0_remove_27 ?_
        refine lv_iload_n hx hb dX0_remove_28 rfl (lv_at hl 3 rfl) ?_
        refine lv_iadd hx hb dX0_remove_29 ?_
        refine lv_istore (lv' := [(4, .int ((x1 * (6 : Int32)) + i)), (0, .ref a0), (1, .int x1), (2, .int x2), (3, .int i)]) hx hb dX0_remove_30 hl (by decide) rfl (fun ls hl => ?_)
        refine lv_aload_n hx hb dX0_remove_32 rfl (lv_at hl 1 rfl) ?_
        refine va_get (D := D) (ci := 0) (v := .ref a1) (C := RX0) (T := TX0) (N := 3) hx hb hts in_X0 hown hG.1 hP 0 g_Co_0 rfl 0 (by decide) k_1 (fun _ h9 => h9) rfl dX0_remove_33 ?_
        refine lv_iload hx hb dX0_remove_36 (lv_at hl 0 rfl) ?_
        refine lv_aload_n hx hb dX0_remove_38 rfl (lv_at hl 1 rfl) ?_
        refine va_get (D := D) (ci := 0) (v := .ref a1) (C := RX0) (T := TX0) (N := 3) hx hb hts in_X0 hown hG.1 hP 0 g_Co_0 rfl 0 (by decide) k_1 (fun _ h9 => h9) rfl dX0_remove_39 ?_
        refine lv_iload hx hb dX0_remove_42 (lv_at hl 0 rfl) ?_
        refine lv_iconst (v := (1 : Int32)) hx hb dX0_remove_44 (by decide) ?_
        refine lv_iadd hx hb dX0_remove_45 ?_
        refine va_iald hx hb hG.1 hP 1 0 (n := 30) (f := (cK r)) g_Co_1 rfl (rm_b1 hOK ho h0 h6 (hc ▸ c_1)) dX0_remove_46 ?_
        refine va_iast hx hb hG.1 hP hD hS 1 0 (n := 30) (f := (cK r)) g_Co_1 rfl (rm_b0 ho h0 h6) dX0_remove_47 (fun H locs hP hD hS => ?_)
        have hP : va_P D vwCl (wCo cy a0 a1 a2 a3 (cK' r (upd (cK r) ((x1 * (6 : Int32)) + i).toNatClampNeg ((cK r) (((x1 * (6 : Int32)) + i) + (1 : Int32)).toNatClampNeg)))) H := va_P_eq hP s_Co_1
        have hD : va_D A (wCo cy a0 a1 a2 a3 (cK' r (upd (cK r) ((x1 * (6 : Int32)) + i).toNatClampNeg ((cK r) (((x1 * (6 : Int32)) + i) + (1 : Int32)).toNatClampNeg)))) := va_D_eq hD s_Co_1
        refine lv_aload_n hx hb dX0_remove_48 rfl (lv_at hl 1 rfl) ?_
        refine va_get (D := D) (ci := 0) (v := .ref a2) (C := RX0) (T := TX0) (N := 3) hx hb hts in_X0 hown hG.1 hP 0 g_Co_0 rfl 1 (by decide) k_2 (fun _ h9 => h9) rfl dX0_remove_49 ?_
        refine lv_iload hx hb dX0_remove_52 (lv_at hl 0 rfl) ?_
        refine lv_aload_n hx hb dX0_remove_54 rfl (lv_at hl 1 rfl) ?_
        refine va_get (D := D) (ci := 0) (v := .ref a2) (C := RX0) (T := TX0) (N := 3) hx hb hts in_X0 hown hG.1 hP 0 g_Co_0 rfl 1 (by decide) k_2 (fun _ h9 => h9) rfl dX0_remove_55 ?_
        refine lv_iload hx hb dX0_remove_58 (lv_at hl 0 rfl) ?_
        refine lv_iconst (v := (1 : Int32)) hx hb dX0_remove_60 (by decide) ?_
        refine lv_iadd hx hb dX0_remove_61 ?_
        refine va_iald hx hb hG.1 hP 2 0 (n := 30) (f := (cD r)) g_Co_2 rfl (rm_b1 hOK ho h0 h6 (hc ▸ c_1)) dX0_remove_62 ?_
        refine va_iast hx hb hG.1 hP hD hS 2 0 (n := 30) (f := (cD r)) g_Co_2 rfl (rm_b0 ho h0 h6) dX0_remove_63 (fun H locs hP hD hS => ?_)
        have hP : va_P D vwCl (wCo cy a0 a1 a2 a3 (cD' (cK' r (upd (cK r) ((x1 * (6 : Int32)) + i).toNatClampNeg ((cK r) (((x1 * (6 : Int32)) + i) + (1 : Int32)).toNatClampNeg))) (upd (cD r) ((x1 * (6 : Int32)) + i).toNatClampNeg ((cD r) (((x1 * (6 : Int32)) + i) + (1 : Int32)).toNatClampNeg)))) H := va_P_eq hP s_Co_2
        have hD : va_D A (wCo cy a0 a1 a2 a3 (cD' (cK' r (upd (cK r) ((x1 * (6 : Int32)) + i).toNatClampNeg ((cK r) (((x1 * (6 : Int32)) + i) + (1 : Int32)).toNatClampNeg))) (upd (cD r) ((x1 * (6 : Int32)) + i).toNatClampNeg ((cD r) (((x1 * (6 : Int32)) + i) + (1 : Int32)).toNatClampNeg)))) := va_D_eq hD s_Co_2
        refine lv_iinc (v := (i + (1 : Int32))) (lv' := [(3, .int (i + (1 : Int32))), (4, .int ((x1 * (6 : Int32)) + i)), (0, .ref a0), (1, .int x1), (2, .int x2)]) hx hb dX0_remove_64 hl (k := 4) rfl rfl (by decide) rfl (fun ls hl => ?_)
        refine lv_goto (tgt := 12) hx hb dX0_remove_67 (by decide) ?_
        exact ih  (cD' (cK' r (upd (cK r) ((x1 * (6 : Int32)) + i).toNatClampNeg ((cK r) (((x1 * (6 : Int32)) + i) + (1 : Int32)).toNatClampNeg))) (upd (cD r) ((x1 * (6 : Int32)) + i).toNatClampNeg ((cD r) (((x1 * (6 : Int32)) + i) + (1 : Int32)).toNatClampNeg))) (i + (1 : Int32)) (rm_up h0 h6 c_1) (rm_up6 hOK ho h0 h6 (hc ▸ c_1)) hc ho (rm_dec h0 h6 (hc ▸ c_1) hm) (by rw [← hQ, m_X0_remove_L12, if_neg c_1]) H locs hP hD hS ls (lv_sub hl [2, 3, 4, 0] rfl)
  refine lv_aload_n hx hb dX0_remove_0 rfl (lv_at hl 0 rfl) ?_
  refine lv_iload_n hx hb dX0_remove_1 rfl (lv_at hl 1 rfl) ?_
  refine lv_iload_n hx hb dX0_remove_2 rfl (lv_at hl 2 rfl) ?_
  refine roV (wc := (wCo cy a0 a1 a2 a3 co)) (As := [.int x1, .int x2]) (rest := []) (c_X0_owes l D cy a0 a1 a2 a3 co x1 x2 hOK) hCF gX0_remove_X0_owes rfl hd_X0_owes ⟨rfl, rfl, Nat.le_of_ble_eq_true rfl, Nat.le_of_ble_eq_true rfl⟩ hG hP (ci := 0) rfl rfl g_Co_0 rfl hl.1 rfl (Nat.le_of_ble_eq_true rfl) dX0_remove_3 ⟨Nat.le_refl _, Nat.le_refl _⟩ ?_
  refine lv_if_ne (tgt := 10) hx hb dX0_remove_6 (by decide) (fun c_2 => ?_) (fun c_2 => ?_)
  · skip
    refine lv_iload_n hx hb dX0_remove_10 rfl (lv_at hl 2 rfl) ?_
    refine lv_istore_n (lv' := [(3, .int x2), (0, .ref a0), (1, .int x1), (2, .int x2)]) hx hb dX0_remove_11 rfl hl (by decide) rfl (fun ls hl => ?_)
    exact L_12 100 co x2 (rm_k0 c_2) (hs_owes c_2).2.2.2 rfl c_2 (rm_init hOK c_2) (by rw [m_X0_remove, if_neg c_2]) s.heap [] hP hD hS ls (lv_sub hl [1, 2, 3, 0] rfl)
  · skip
    exact mu_vret hx hb hr hlocks hP hS dX0_remove_9 (by rw [m_X0_remove, if_pos c_2])
def m_X0_clear_L2 : Nat → CoT → Int32 → CoT
  | 0, r, _ => r
  | nF + 1, r, i => if (5 : Int32) ≤ i then r else m_X0_clear_L2 nF (cC' r (upd (cC r) i.toNatClampNeg (0 : Int32))) (i + (1 : Int32))
def m_X0_clear (co : CoT) : CoT := m_X0_clear_L2 100 co (0 : Int32)
theorem hd_X0_clear : yX0_clear.cls = RX0 ∧ yX0_clear.cls ≠ "java/lang/invoke/MethodHandle" ∧ yX0_clear.cls ≠ "java/lang/invoke/VarHandle" ∧ (parseMethodDescriptor yX0_clear.desc).map (fun d => d.parameters.length) = some 0 := by decide +kernel
set_option maxHeartbeats 8000000 in
set_option maxRecDepth 20000 in
theorem c_X0_clear (l : Launch) (D : va_G) (cy : Nat → ClassId) (a0 a1 a2 a3 : Nat) (co : CoT) : MV l D cy yX0_clear wsX0_clear ({ frames := 0, cells := 0, slots := 0, locals := 0 } : Room) (wCo cy a0 a1 a2 a3 co) (wCo cy a0 a1 a2 a3 (m_X0_clear co)) [.ref a0] := by
  refine MV.body (by decide) rfl (Nat.le_of_ble_eq_true rfl) ?_
  intro p e s m below meth c hx hb hml hr hts hown hlocks hP hG ls hl A hD hA hS
  have hl : lv_has ls 2 [(0, .ref a0)] := hl
  have hCF : CallFix p m c cX0_clear 2 s ([.ref a0] : List Value).toArray wsX0_clear RX0 := ⟨hx, hb, hml, hown, hts⟩
  have in_X0 : ∀ w ∈ u_ws RX0 TX0 3, w ∈ wsX0_clear := fun _ h => List.mem_cons_of_mem _ (List.mem_append_right _ h)
  have k_0 := hts (Cond.fieldLink RX0 18 "SparePool$Cores" "count" "[I") (List.mem_of_getElem? (i := 1) rfl)
  have hP : va_P D vwCl (wCo cy a0 a1 a2 a3 co) s.heap := hP
  have L_2 : ∀ (nF : Nat) (r : CoT) (i : Int32), 0 ≤ i.toInt → ((5 : Int32).toInt - i.toInt).toNat < nF → m_X0_clear_L2 nF r i = (m_X0_clear co) → ∀ (H : Heap) (locs : List Loc), va_P D vwCl (wCo cy a0 a1 a2 a3 r) H → va_D A (wCo cy a0 a1 a2 a3 r) → va_S A s.heap H locs → ∀ ls : Array Slot, lv_has ls 2 [(0, .ref a0), (1, .int i)] → W p l e ({ frames := 0, cells := 0, slots := 0, locals := 0 } : Room) s m ([.ref a0] : List Value).toArray below meth c H locs 0 0 (MQ below (va_Qv (fun (_ : Unit) => True) (fun _ t => va_P D vwCl (wCo cy a0 a1 a2 a3 (m_X0_clear co)) t.heap) A) ([.ref a0] : List Value).toArray s 0 0 A) (F0 m 2 ls []) := by
    intro nF
    induction nF with
    | zero => intro r i h0 hm; exact absurd hm (Nat.not_lt_zero _)
    | succ nF ih =>
      intro r i h0 hm hQ H locs hP hD hS ls hl
      refine lv_iload_n hx hb dX0_clear_2 rfl (lv_at hl 1 rfl) ?_
      refine lv_iconst (v := (5 : Int32)) hx hb dX0_clear_3 (by decide) ?_
      refine lv_icmp_ge (tgt := 20) hx hb dX0_clear_4 (by decide) (fun c_1 => ?_) (fun c_1 => ?_)
      · skip
        exact mu_vret hx hb hr hlocks hP hS dX0_clear_20 (by rw [← hQ, m_X0_clear_L2, if_pos c_1])
      · skip
        refine lv_aload_n hx hb dX0_clear_7 rfl (lv_at hl 0 rfl) ?_
        refine va_get (D := D) (ci := 0) (v := .ref a3) (C := RX0) (T := TX0) (N := 3) hx hb hts in_X0 hown hG.1 hP 0 g_Co_0 rfl 2 (by decide) k_0 (fun _ h9 => h9) rfl dX0_clear_8 ?_
        refine lv_iload_n hx hb dX0_clear_11 rfl (lv_at hl 1 rfl) ?_
        refine lv_iconst (v := (0 : Int32)) hx hb dX0_clear_12 (by decide) ?_
        refine va_iast hx hb hG.1 hP hD hS 3 0 (n := 5) (f := (cC r)) g_Co_3 rfl (bd_loop h0 c_1 ((by decide))) dX0_clear_13 (fun H locs hP hD hS => ?_)
        have hP : va_P D vwCl (wCo cy a0 a1 a2 a3 (cC' r (upd (cC r) i.toNatClampNeg (0 : Int32)))) H := va_P_eq hP s_Co_3
        have hD : va_D A (wCo cy a0 a1 a2 a3 (cC' r (upd (cC r) i.toNatClampNeg (0 : Int32)))) := va_D_eq hD s_Co_3
        refine lv_iinc (v := (i + (1 : Int32))) (lv' := [(1, .int (i + (1 : Int32))), (0, .ref a0)]) hx hb dX0_clear_14 hl (k := 1) rfl rfl (by decide) rfl (fun ls hl => ?_)
        refine lv_goto (tgt := 2) hx hb dX0_clear_17 (by decide) ?_
        exact ih  (cC' r (upd (cC r) i.toNatClampNeg (0 : Int32))) (i + (1 : Int32)) (lp_up h0 c_1) (lp_dec h0 c_1 hm) (by rw [← hQ, m_X0_clear_L2, if_neg c_1]) H locs hP hD hS ls (lv_sub hl [1, 0] rfl)
  refine lv_iconst (v := (0 : Int32)) hx hb dX0_clear_0 (by decide) ?_
  refine lv_istore_n (lv' := [(1, .int (0 : Int32)), (0, .ref a0)]) hx hb dX0_clear_1 rfl hl (by decide) rfl (fun ls hl => ?_)
  exact L_2 100 co (0 : Int32) (by decide) (lp_init (M := 5) (by decide) (by decide)) (by rw [m_X0_clear]) s.heap [] hP hD hS ls (lv_sub hl [1, 0] rfl)
def m_X0_all_L4 : Nat → CoT → Int32 → Int32 → Int32
  | 0, _, _, _ => 0
  | nF + 1, co, n, h => if (5 : Int32) ≤ h then n else m_X0_all_L4 nF co (n + ((cC co) h.toNatClampNeg)) (h + (1 : Int32))
def m_X0_all (co : CoT) : Int32 := m_X0_all_L4 100 co (0 : Int32) (0 : Int32)
theorem hd_X0_all : yX0_all.cls = RX0 ∧ yX0_all.cls ≠ "java/lang/invoke/MethodHandle" ∧ yX0_all.cls ≠ "java/lang/invoke/VarHandle" ∧ (parseMethodDescriptor yX0_all.desc).map (fun d => d.parameters.length) = some 0 := by decide +kernel
set_option maxHeartbeats 8000000 in
set_option maxRecDepth 20000 in
theorem c_X0_all (l : Launch) (D : va_G) (cy : Nat → ClassId) (a0 a1 a2 a3 : Nat) (co : CoT) (hOK : coOK co) : RO l D cy yX0_all wsX0_all ({ frames := 0, cells := 0, slots := 0, locals := 0 } : Room) (wCo cy a0 a1 a2 a3 co) [.ref a0] (m_X0_all co) := by
  refine RO.body (by decide) rfl (Nat.le_of_ble_eq_true rfl) ?_
  intro p e s m below meth c hx hb hml hr hts hown hlocks hP hG ls hl
  have hl : lv_has ls 3 [(0, .ref a0)] := hl
  have hCF : CallFix p m c cX0_all 3 s ([.ref a0] : List Value).toArray wsX0_all RX0 := ⟨hx, hb, hml, hown, hts⟩
  have in_X0 : ∀ w ∈ u_ws RX0 TX0 3, w ∈ wsX0_all := fun _ h => List.mem_cons_of_mem _ (List.mem_append_right _ h)
  have k_0 := hts (Cond.fieldLink RX0 18 "SparePool$Cores" "count" "[I") (List.mem_of_getElem? (i := 1) rfl)
  have L_4 : ∀ (nF : Nat) (n : Int32) (h : Int32), 0 ≤ h.toInt → ((5 : Int32).toInt - h.toInt).toNat < nF → m_X0_all_L4 nF co n h = (m_X0_all co) → ∀ ls : Array Slot, lv_has ls 3 [(0, .ref a0), (1, .int n), (2, .int h)] → W p l e ({ frames := 0, cells := 0, slots := 0, locals := 0 } : Room) s m ([.ref a0] : List Value).toArray below meth c s.heap [] 0 0 (MQ below (vp_Si (fun v_ => v_ = (m_X0_all co))) ([.ref a0] : List Value).toArray s 0 0 (fun _ => False)) (F0 m 4 ls []) := by
    intro nF
    induction nF with
    | zero => intro n h h0 hm; exact absurd hm (Nat.not_lt_zero _)
    | succ nF ih =>
      intro n h h0 hm hQ ls hl
      refine lv_iload_n hx hb dX0_all_4 rfl (lv_at hl 2 rfl) ?_
      refine lv_iconst (v := (5 : Int32)) hx hb dX0_all_5 (by decide) ?_
      refine lv_icmp_ge (tgt := 24) hx hb dX0_all_6 (by decide) (fun c_1 => ?_) (fun c_1 => ?_)
      · skip
        refine lv_iload_n hx hb dX0_all_24 rfl (lv_at hl 1 rfl) ?_
        exact ro_iret hx hb hr hlocks dX0_all_25 (by rw [← hQ, m_X0_all_L4, if_pos c_1])
      · skip
        refine lv_iload_n hx hb dX0_all_9 rfl (lv_at hl 1 rfl) ?_
        refine lv_aload_n hx hb dX0_all_10 rfl (lv_at hl 0 rfl) ?_
        refine va_get (D := D) (ci := 0) (v := .ref a3) (C := RX0) (T := TX0) (N := 3) hx hb hts in_X0 hown hG.1 hP 0 g_Co_0 rfl 2 (by decide) k_0 (fun _ h9 => h9) rfl dX0_all_11 ?_
        refine lv_iload_n hx hb dX0_all_14 rfl (lv_at hl 2 rfl) ?_
        refine va_iald hx hb hG.1 hP 3 0 (n := 5) (f := (cC co)) g_Co_3 rfl (bd_loop h0 c_1 ((by decide))) dX0_all_15 ?_
        refine lv_iadd hx hb dX0_all_16 ?_
        refine lv_istore_n (lv' := [(1, .int (n + ((cC co) h.toNatClampNeg))), (0, .ref a0), (2, .int h)]) hx hb dX0_all_17 rfl hl (by decide) rfl (fun ls hl => ?_)
        refine lv_iinc (v := (h + (1 : Int32))) (lv' := [(2, .int (h + (1 : Int32))), (1, .int (n + ((cC co) h.toNatClampNeg))), (0, .ref a0)]) hx hb dX0_all_18 hl (k := 2) rfl rfl (by decide) rfl (fun ls hl => ?_)
        refine lv_goto (tgt := 4) hx hb dX0_all_21 (by decide) ?_
        exact ih  (n + ((cC co) h.toNatClampNeg)) (h + (1 : Int32)) (lp_up h0 c_1) (lp_dec h0 c_1 hm) (by rw [← hQ, m_X0_all_L4, if_neg c_1]) ls (lv_sub hl [2, 1, 0] rfl)
  refine lv_iconst (v := (0 : Int32)) hx hb dX0_all_0 (by decide) ?_
  refine lv_istore_n (lv' := [(1, .int (0 : Int32)), (0, .ref a0)]) hx hb dX0_all_1 rfl hl (by decide) rfl (fun ls hl => ?_)
  refine lv_iconst (v := (0 : Int32)) hx hb dX0_all_2 (by decide) ?_
  refine lv_istore_n (lv' := [(2, .int (0 : Int32)), (1, .int (0 : Int32)), (0, .ref a0)]) hx hb dX0_all_3 rfl hl (by decide) rfl (fun ls hl => ?_)
  exact L_4 100 (0 : Int32) (0 : Int32) (by decide) (lp_init (M := 5) (by decide) (by decide)) (by rw [m_X0_all]) ls (lv_sub hl [2, 1, 0] rfl)
def m_X1_indexOf (x1 : Int32) (x2 : Int32) (x3 : Int32) (x4 : Int32) : Int32 := if (m_X8_isHolder x1) = (0 : Int32) then (-1 : Int32) else if (m_X8_isHolder x2) = (0 : Int32) then (-1 : Int32) else if (m_X8_isKind x3) = (0 : Int32) then (-1 : Int32) else if (m_X8_isPart x4) = (0 : Int32) then (-1 : Int32) else ((((x1 * (5 : Int32)) + x2) * (9 : Int32)) + (x3 * (3 : Int32))) + x4
theorem hd_X1_indexOf : yX1_indexOf.cls = RX1 ∧ yX1_indexOf.cls ≠ "java/lang/invoke/MethodHandle" ∧ yX1_indexOf.cls ≠ "java/lang/invoke/VarHandle" ∧ (parseMethodDescriptor yX1_indexOf.desc).map (fun d => d.parameters.length) = some 4 := by decide +kernel
set_option maxHeartbeats 8000000 in
set_option maxRecDepth 20000 in
theorem c_X1_indexOf (l : Launch) (D : va_G) (cy : Nat → ClassId) (x1 : Int32) (x2 : Int32) (x3 : Int32) (x4 : Int32) : RO l D cy yX1_indexOf wsX1_indexOf ({ frames := 1, cells := 0, slots := 0, locals := 20 } : Room) ([] : va_W) [.int x1, .int x2, .int x3, .int x4] (m_X1_indexOf x1 x2 x3 x4) := by
  refine RO.body (by decide) rfl (Nat.le_of_ble_eq_true rfl) ?_
  intro p e s m below meth c hx hb hml hr hts hown hlocks hP hG ls hl
  have hl : lv_has ls 4 [(0, .int x1), (1, .int x2), (2, .int x3), (3, .int x4)] := hl
  have hCF : CallFix p m c cX1_indexOf 4 s ([.int x1, .int x2, .int x3, .int x4] : List Value).toArray wsX1_indexOf RX1 := ⟨hx, hb, hml, hown, hts⟩
  have k_0 := hts (Cond.initialized RX8) (List.mem_of_getElem? (i := 2) rfl)
  have k_1 := hts (Cond.static yX8_isHolder) (List.mem_of_getElem? (i := 1) rfl)
  have k_2 := hts (Cond.static yX8_isKind) (List.mem_of_getElem? (i := 4) rfl)
  have k_3 := hts (Cond.static yX8_isPart) (List.mem_of_getElem? (i := 6) rfl)
  refine lv_iload_n hx hb dX1_indexOf_0 rfl (lv_at hl 0 rfl) ?_
  refine roSN (wc := ([] : va_W)) (As := [.int x1]) (rest := []) (c_X8_isHolder l D cy x1) hCF gX1_indexOf_X8_isHolder_n21 (nw_X1_21 hG.2) k_0 k_1 rfl hd_X8_isHolder.2 ⟨rfl, rfl, Nat.le_of_ble_eq_true rfl, Nat.le_of_ble_eq_true rfl⟩ hG hP rfl hl.1 rfl (Nat.le_of_ble_eq_true rfl) dX1_indexOf_1 ⟨Nat.le_refl _, Nat.le_refl _⟩ ?_
  refine lv_if_eq (tgt := 28) hx hb dX1_indexOf_4 (by decide) (fun c_1 => ?_) (fun c_1 => ?_)
  · skip
    refine lv_iconst (v := (-1 : Int32)) hx hb dX1_indexOf_28 (by decide) ?_
    exact ro_iret hx hb hr hlocks dX1_indexOf_29 (by rw [m_X1_indexOf, if_pos c_1])
  · skip
    refine lv_iload_n hx hb dX1_indexOf_7 rfl (lv_at hl 1 rfl) ?_
    refine roSN (wc := ([] : va_W)) (As := [.int x2]) (rest := []) (c_X8_isHolder l D cy x2) hCF gX1_indexOf_X8_isHolder_n21 (nw_X1_21 hG.2) k_0 k_1 rfl hd_X8_isHolder.2 ⟨rfl, rfl, Nat.le_of_ble_eq_true rfl, Nat.le_of_ble_eq_true rfl⟩ hG hP rfl hl.1 rfl (Nat.le_of_ble_eq_true rfl) dX1_indexOf_8 ⟨Nat.le_refl _, Nat.le_refl _⟩ ?_
    refine lv_if_eq (tgt := 28) hx hb dX1_indexOf_11 (by decide) (fun c_2 => ?_) (fun c_2 => ?_)
    · skip
      refine lv_iconst (v := (-1 : Int32)) hx hb dX1_indexOf_28 (by decide) ?_
      exact ro_iret hx hb hr hlocks dX1_indexOf_29 (by rw [m_X1_indexOf, if_neg c_1, if_pos c_2])
    · skip
      refine lv_iload_n hx hb dX1_indexOf_14 rfl (lv_at hl 2 rfl) ?_
      refine roSN (wc := ([] : va_W)) (As := [.int x3]) (rest := []) (c_X8_isKind l D cy x3) hCF gX1_indexOf_X8_isKind_n25 (nw_X1_25 hG.2) k_0 k_2 rfl hd_X8_isKind.2 ⟨rfl, rfl, Nat.le_of_ble_eq_true rfl, Nat.le_of_ble_eq_true rfl⟩ hG hP rfl hl.1 rfl (Nat.le_of_ble_eq_true rfl) dX1_indexOf_15 ⟨Nat.le_refl _, Nat.le_refl _⟩ ?_
      refine lv_if_eq (tgt := 28) hx hb dX1_indexOf_18 (by decide) (fun c_3 => ?_) (fun c_3 => ?_)
      · skip
        refine lv_iconst (v := (-1 : Int32)) hx hb dX1_indexOf_28 (by decide) ?_
        exact ro_iret hx hb hr hlocks dX1_indexOf_29 (by rw [m_X1_indexOf, if_neg c_1, if_neg c_2, if_pos c_3])
      · skip
        refine lv_iload_n hx hb dX1_indexOf_21 rfl (lv_at hl 3 rfl) ?_
        refine roSN (wc := ([] : va_W)) (As := [.int x4]) (rest := []) (c_X8_isPart l D cy x4) hCF gX1_indexOf_X8_isPart_n28 (nw_X1_28 hG.2) k_0 k_3 rfl hd_X8_isPart.2 ⟨rfl, rfl, Nat.le_of_ble_eq_true rfl, Nat.le_of_ble_eq_true rfl⟩ hG hP rfl hl.1 rfl (Nat.le_of_ble_eq_true rfl) dX1_indexOf_22 ⟨Nat.le_refl _, Nat.le_refl _⟩ ?_
        refine lv_if_ne (tgt := 30) hx hb dX1_indexOf_25 (by decide) (fun c_4 => ?_) (fun c_4 => ?_)
        · skip
          refine lv_iload_n hx hb dX1_indexOf_30 rfl (lv_at hl 0 rfl) ?_
          refine lv_iconst (v := (5 : Int32)) hx hb dX1_indexOf_31 (by decide) ?_
          refine lv_imul hx hb dX1_indexOf_32 ?_
          refine lv_iload_n hx hb dX1_indexOf_33 rfl (lv_at hl 1 rfl) ?_
          refine lv_iadd hx hb dX1_indexOf_34 ?_
          refine lv_bipush (v := (9 : Int32)) hx hb dX1_indexOf_35 (by decide) ?_
          refine lv_imul hx hb dX1_indexOf_37 ?_
          refine lv_iload_n hx hb dX1_indexOf_38 rfl (lv_at hl 2 rfl) ?_
          refine lv_iconst (v := (3 : Int32)) hx hb dX1_indexOf_39 (by decide) ?_
          refine lv_imul hx hb dX1_indexOf_40 ?_
          refine lv_iadd hx hb dX1_indexOf_41 ?_
          refine lv_iload_n hx hb dX1_indexOf_42 rfl (lv_at hl 3 rfl) ?_
          refine lv_iadd hx hb dX1_indexOf_43 ?_
          exact ro_iret hx hb hr hlocks dX1_indexOf_44 (by rw [m_X1_indexOf, if_neg c_1, if_neg c_2, if_neg c_3, if_neg c_4])
        · skip
          refine lv_iconst (v := (-1 : Int32)) hx hb dX1_indexOf_28 (by decide) ?_
          exact ro_iret hx hb hr hlocks dX1_indexOf_29 (by rw [m_X1_indexOf, if_neg c_1, if_neg c_2, if_neg c_3, if_pos c_4])
theorem ix_toInt {h o k p : Int32} (h1 : 0 ≤ h.toInt ∧ h.toInt < 5) (h2 : 0 ≤ o.toInt ∧ o.toInt < 5) (h3 : 0 ≤ k.toInt ∧ k.toInt < 3) (h4 : 0 ≤ p.toInt ∧ p.toInt < 3) : (((h * 5 + o) * 9) + k * 3 + p).toInt = (h.toInt * 5 + o.toInt) * 9 + k.toInt * 3 + p.toInt := by
  have e5 : (5 : Int32).toInt = 5 := by decide
  have e9 : (9 : Int32).toInt = 9 := by decide
  have e3 : (3 : Int32).toInt = 3 := by decide
  have a1 : (h * 5).toInt = h.toInt * 5 := by rw [i32_mul (by rw [e5]; omega) (by rw [e5]; omega), e5]
  have a2 : (h * 5 + o).toInt = h.toInt * 5 + o.toInt := by rw [i32_add (by rw [a1]; omega) (by rw [a1]; omega), a1]
  have a3 : ((h * 5 + o) * 9).toInt = (h.toInt * 5 + o.toInt) * 9 := by rw [i32_mul (by rw [e9, a2]; omega) (by rw [e9, a2]; omega), e9, a2]
  have a4 : (k * 3).toInt = k.toInt * 3 := by rw [i32_mul (by rw [e3]; omega) (by rw [e3]; omega), e3]
  have a5 : ((h * 5 + o) * 9 + k * 3).toInt = (h.toInt * 5 + o.toInt) * 9 + k.toInt * 3 := by rw [i32_add (by rw [a3, a4]; omega) (by rw [a3, a4]; omega), a3, a4]
  rw [i32_add (by rw [a5]; omega) (by rw [a5]; omega), a5]
theorem hs_indexOf {h o k p : Int32} (c : ¬ m_X1_indexOf h o k p = -1) : (¬ m_X8_isHolder h = 0) ∧ (¬ m_X8_isHolder o = 0) ∧ (¬ m_X8_isKind k = 0) ∧ (¬ m_X8_isPart p = 0) ∧ m_X1_indexOf h o k p = ((h * 5 + o) * 9) + k * 3 + p := by
  unfold m_X1_indexOf at c ⊢
  split at c
  · exact absurd rfl c
  · rename_i h1
    split at c
    · exact absurd rfl c
    · rename_i h2
      split at c
      · exact absurd rfl c
      · rename_i h3
        split at c
        · exact absurd rfl c
        · rename_i h4
          exact ⟨h1, h2, h3, h4, by rw [if_neg h1, if_neg h2, if_neg h3, if_neg h4]⟩
theorem bd_indexOf {h o k p : Int32} (c : ¬ m_X1_indexOf h o k p = -1) : vp_in (m_X1_indexOf h o k p) 225 := by
  obtain ⟨h1, h2, h3, h4, e⟩ := hs_indexOf c
  have g1 := hs_isHolder h1
  have g2 := hs_isHolder h2
  have g3 := hs_isKind h3
  have g4 := hs_isPart h4
  have := ix_toInt g1 g2 g3 g4
  rw [e]
  exact bd_of (by omega) (by omega)
theorem bd_sorts {h o i : Int32} (c1 : ¬ m_X8_isHolder h = 0) (c2 : ¬ m_X8_isHolder o = 0) (h0 : 0 ≤ i.toInt) (c : ¬ (9 : Int32) ≤ i) : vp_in ((h * 5 + o) * 9 + i) 225 := by
  have g1 := hs_isHolder c1
  have g2 := hs_isHolder c2
  rw [i32_le] at c
  have e5 : (5 : Int32).toInt = 5 := by decide
  have e9 : (9 : Int32).toInt = 9 := by decide
  have a1 : (h * 5).toInt = h.toInt * 5 := by rw [i32_mul (by rw [e5]; omega) (by rw [e5]; omega), e5]
  have a2 : (h * 5 + o).toInt = h.toInt * 5 + o.toInt := by rw [i32_add (by rw [a1]; omega) (by rw [a1]; omega), a1]
  have a3 : ((h * 5 + o) * 9).toInt = (h.toInt * 5 + o.toInt) * 9 := by rw [i32_mul (by rw [e9, a2]; omega) (by rw [e9, a2]; omega), e9, a2]
  have a5 : ((h * 5 + o) * 9 + i).toInt = (h.toInt * 5 + o.toInt) * 9 + i.toInt := by rw [i32_add (by rw [a3]; omega) (by rw [a3]; omega), a3]
  exact bd_of (by omega) (by omega)
def m_X1_between (de : (Nat → Int32)) (x1 : Int32) (x2 : Int32) (x3 : Int32) (x4 : Int32) : Int32 := if (m_X1_indexOf x1 x2 x3 x4) = (-1 : Int32) then (0 : Int32) else de (m_X1_indexOf x1 x2 x3 x4).toNatClampNeg
theorem hd_X1_between : yX1_between.cls = RX1 ∧ yX1_between.cls ≠ "java/lang/invoke/MethodHandle" ∧ yX1_between.cls ≠ "java/lang/invoke/VarHandle" ∧ (parseMethodDescriptor yX1_between.desc).map (fun d => d.parameters.length) = some 4 := by decide +kernel
set_option maxHeartbeats 8000000 in
set_option maxRecDepth 20000 in
theorem c_X1_between (l : Launch) (D : va_G) (cy : Nat → ClassId) (a0 a1 : Nat) (de : (Nat → Int32)) (x1 : Int32) (x2 : Int32) (x3 : Int32) (x4 : Int32) : RO l D cy yX1_between wsX1_between ({ frames := 2, cells := 0, slots := 0, locals := 43 } : Room) (wDe cy a0 a1 de) [.ref a0, .int x1, .int x2, .int x3, .int x4] (m_X1_between de x1 x2 x3 x4) := by
  refine RO.body (by decide) rfl (Nat.le_of_ble_eq_true rfl) ?_
  intro p e s m below meth c hx hb hml hr hts hown hlocks hP hG ls hl
  have hl : lv_has ls 6 [(0, .ref a0), (1, .int x1), (2, .int x2), (3, .int x3), (4, .int x4)] := hl
  have hCF : CallFix p m c cX1_between 6 s ([.ref a0, .int x1, .int x2, .int x3, .int x4] : List Value).toArray wsX1_between RX1 := ⟨hx, hb, hml, hown, hts⟩
  have in_X1 : ∀ w ∈ u_ws RX1 TX1 1, w ∈ wsX1_between := fun _ h => List.mem_cons_of_mem _ (List.mem_append_right _ h)
  have k_0 := hts (Cond.fieldLink RX1 11 "SparePool$Debts" "owing" "[I") (List.mem_of_getElem? (i := 1) rfl)
  refine lv_iload_n hx hb dX1_between_0 rfl (lv_at hl 1 rfl) ?_
  refine lv_iload_n hx hb dX1_between_1 rfl (lv_at hl 2 rfl) ?_
  refine lv_iload_n hx hb dX1_between_2 rfl (lv_at hl 3 rfl) ?_
  refine lv_iload hx hb dX1_between_3 (lv_at hl 4 rfl) ?_
  refine roS (wc := ([] : va_W)) (As := [.int x1, .int x2, .int x3, .int x4]) (rest := []) (c_X1_indexOf l D cy x1 x2 x3 x4) hCF gX1_between_X1_indexOf rfl hd_X1_indexOf ⟨rfl, rfl, Nat.le_of_ble_eq_true rfl, Nat.le_of_ble_eq_true rfl⟩ hG va_P_nil rfl hl.1 rfl (Nat.le_of_ble_eq_true rfl) dX1_between_5 ⟨Nat.le_refl _, Nat.le_refl _⟩ ?_
  refine lv_istore (lv' := [(5, .int (m_X1_indexOf x1 x2 x3 x4)), (0, .ref a0), (1, .int x1), (2, .int x2), (3, .int x3), (4, .int x4)]) hx hb dX1_between_8 hl (by decide) rfl (fun ls hl => ?_)
  refine lv_iload hx hb dX1_between_10 (lv_at hl 0 rfl) ?_
  refine lv_iconst (v := (-1 : Int32)) hx hb dX1_between_12 (by decide) ?_
  refine lv_icmp_ne (tgt := 20) hx hb dX1_between_13 (by decide) (fun c_1 => ?_) (fun c_1 => ?_)
  · skip
    refine lv_aload_n hx hb dX1_between_20 rfl (lv_at hl 1 rfl) ?_
    refine va_get (D := D) (ci := 1) (v := .ref a1) (C := RX1) (T := TX1) (N := 1) hx hb hts in_X1 hown hG.1 hP 0 g_De_0 rfl 0 (by decide) k_0 (fun _ h9 => h9) rfl dX1_between_21 ?_
    refine lv_iload hx hb dX1_between_24 (lv_at hl 0 rfl) ?_
    refine va_iald hx hb hG.1 hP 1 0 (n := 225) (f := de) g_De_1 rfl (bd_indexOf c_1) dX1_between_26 ?_
    exact ro_iret hx hb hr hlocks dX1_between_27 (by rw [m_X1_between, if_neg c_1])
  · skip
    refine lv_iconst (v := (0 : Int32)) hx hb dX1_between_16 (by decide) ?_
    refine lv_goto (tgt := 27) hx hb dX1_between_17 (by decide) ?_
    exact ro_iret hx hb hr hlocks dX1_between_27 (by rw [m_X1_between, if_pos c_1])
def m_X1_addOne (de : (Nat → Int32)) (x1 : Int32) (x2 : Int32) (x3 : Int32) (x4 : Int32) : (Nat → Int32) := if (m_X1_indexOf x1 x2 x3 x4) = (-1 : Int32) then de else if (m_X1_indexOf x2 x1 x3 x4) = (-1 : Int32) then de else if (m_X1_indexOf x1 x2 x3 x4) = (m_X1_indexOf x2 x1 x3 x4) then de else if (de (m_X1_indexOf x2 x1 x3 x4).toNatClampNeg) ≤ (0 : Int32) then upd de (m_X1_indexOf x1 x2 x3 x4).toNatClampNeg ((de (m_X1_indexOf x1 x2 x3 x4).toNatClampNeg) + (1 : Int32)) else upd de (m_X1_indexOf x2 x1 x3 x4).toNatClampNeg ((de (m_X1_indexOf x2 x1 x3 x4).toNatClampNeg) - (1 : Int32))
theorem hd_X1_addOne : yX1_addOne.cls = RX1 ∧ yX1_addOne.cls ≠ "java/lang/invoke/MethodHandle" ∧ yX1_addOne.cls ≠ "java/lang/invoke/VarHandle" ∧ (parseMethodDescriptor yX1_addOne.desc).map (fun d => d.parameters.length) = some 4 := by decide +kernel
set_option maxHeartbeats 8000000 in
set_option maxRecDepth 20000 in
theorem c_X1_addOne (l : Launch) (D : va_G) (cy : Nat → ClassId) (a0 a1 : Nat) (de : (Nat → Int32)) (x1 : Int32) (x2 : Int32) (x3 : Int32) (x4 : Int32) : MV l D cy yX1_addOne wsX1_addOne ({ frames := 2, cells := 0, slots := 0, locals := 43 } : Room) (wDe cy a0 a1 de) (wDe cy a0 a1 (m_X1_addOne de x1 x2 x3 x4)) [.ref a0, .int x1, .int x2, .int x3, .int x4] := by
  refine MV.body (by decide) rfl (Nat.le_of_ble_eq_true rfl) ?_
  intro p e s m below meth c hx hb hml hr hts hown hlocks hP hG ls hl A hD hA hS
  have hl : lv_has ls 7 [(0, .ref a0), (1, .int x1), (2, .int x2), (3, .int x3), (4, .int x4)] := hl
  have hCF : CallFix p m c cX1_addOne 7 s ([.ref a0, .int x1, .int x2, .int x3, .int x4] : List Value).toArray wsX1_addOne RX1 := ⟨hx, hb, hml, hown, hts⟩
  have in_X1 : ∀ w ∈ u_ws RX1 TX1 1, w ∈ wsX1_addOne := fun _ h => List.mem_cons_of_mem _ (List.mem_append_right _ h)
  have k_0 := hts (Cond.fieldLink RX1 11 "SparePool$Debts" "owing" "[I") (List.mem_of_getElem? (i := 1) rfl)
  have hP : va_P D vwCl (wDe cy a0 a1 de) s.heap := hP
  refine lv_iload_n hx hb dX1_addOne_0 rfl (lv_at hl 1 rfl) ?_
  refine lv_iload_n hx hb dX1_addOne_1 rfl (lv_at hl 2 rfl) ?_
  refine lv_iload_n hx hb dX1_addOne_2 rfl (lv_at hl 3 rfl) ?_
  refine lv_iload hx hb dX1_addOne_3 (lv_at hl 4 rfl) ?_
  refine roS (wc := ([] : va_W)) (As := [.int x1, .int x2, .int x3, .int x4]) (rest := []) (c_X1_indexOf l D cy x1 x2 x3 x4) hCF gX1_addOne_X1_indexOf rfl hd_X1_indexOf ⟨rfl, rfl, Nat.le_of_ble_eq_true rfl, Nat.le_of_ble_eq_true rfl⟩ hG va_P_nil rfl hl.1 rfl (Nat.le_of_ble_eq_true rfl) dX1_addOne_5 ⟨Nat.le_refl _, Nat.le_refl _⟩ ?_
  refine lv_istore (lv' := [(5, .int (m_X1_indexOf x1 x2 x3 x4)), (0, .ref a0), (1, .int x1), (2, .int x2), (3, .int x3), (4, .int x4)]) hx hb dX1_addOne_8 hl (by decide) rfl (fun ls hl => ?_)
  refine lv_iload_n hx hb dX1_addOne_10 rfl (lv_at hl 3 rfl) ?_
  refine lv_iload_n hx hb dX1_addOne_11 rfl (lv_at hl 2 rfl) ?_
  refine lv_iload_n hx hb dX1_addOne_12 rfl (lv_at hl 4 rfl) ?_
  refine lv_iload hx hb dX1_addOne_13 (lv_at hl 5 rfl) ?_
  refine roS (wc := ([] : va_W)) (As := [.int x2, .int x1, .int x3, .int x4]) (rest := []) (c_X1_indexOf l D cy x2 x1 x3 x4) hCF gX1_addOne_X1_indexOf rfl hd_X1_indexOf ⟨rfl, rfl, Nat.le_of_ble_eq_true rfl, Nat.le_of_ble_eq_true rfl⟩ hG va_P_nil rfl hl.1 rfl (Nat.le_of_ble_eq_true rfl) dX1_addOne_15 ⟨Nat.le_refl _, Nat.le_refl _⟩ ?_
  refine lv_istore (lv' := [(6, .int (m_X1_indexOf x2 x1 x3 x4)), (5, .int (m_X1_indexOf x1 x2 x3 x4)), (0, .ref a0), (1, .int x1), (2, .int x2), (3, .int x3), (4, .int x4)]) hx hb dX1_addOne_18 hl (by decide) rfl (fun ls hl => ?_)
  refine lv_iload hx hb dX1_addOne_20 (lv_at hl 1 rfl) ?_
  refine lv_iconst (v := (-1 : Int32)) hx hb dX1_addOne_22 (by decide) ?_
  refine lv_icmp_eq (tgt := 39) hx hb dX1_addOne_23 (by decide) (fun c_1 => ?_) (fun c_1 => ?_)
  · skip
    exact mu_vret hx hb hr hlocks hP hS dX1_addOne_39 (by rw [m_X1_addOne, if_pos c_1])
  · skip
    refine lv_iload hx hb dX1_addOne_26 (lv_at hl 0 rfl) ?_
    refine lv_iconst (v := (-1 : Int32)) hx hb dX1_addOne_28 (by decide) ?_
    refine lv_icmp_eq (tgt := 39) hx hb dX1_addOne_29 (by decide) (fun c_2 => ?_) (fun c_2 => ?_)
    · skip
      exact mu_vret hx hb hr hlocks hP hS dX1_addOne_39 (by rw [m_X1_addOne, if_neg c_1, if_pos c_2])
    · skip
      refine lv_iload hx hb dX1_addOne_32 (lv_at hl 1 rfl) ?_
      refine lv_iload hx hb dX1_addOne_34 (lv_at hl 0 rfl) ?_
      refine lv_icmp_ne (tgt := 40) hx hb dX1_addOne_36 (by decide) (fun c_3 => ?_) (fun c_3 => ?_)
      · skip
        refine lv_aload_n hx hb dX1_addOne_40 rfl (lv_at hl 2 rfl) ?_
        refine va_get (D := D) (ci := 1) (v := .ref a1) (C := RX1) (T := TX1) (N := 1) hx hb hts in_X1 hown hG.1 hP 0 g_De_0 rfl 0 (by decide) k_0 (fun _ h9 => h9) rfl dX1_addOne_41 ?_
        refine lv_iload hx hb dX1_addOne_44 (lv_at hl 0 rfl) ?_
        refine va_iald hx hb hG.1 hP 1 0 (n := 225) (f := de) g_De_1 rfl (bd_indexOf c_2) dX1_addOne_46 ?_
        refine lv_if_le (tgt := 64) hx hb dX1_addOne_47 (by decide) (fun c_4 => ?_) (fun c_4 => ?_)
        · skip
          refine lv_aload_n hx hb dX1_addOne_64 rfl (lv_at hl 2 rfl) ?_
          refine va_get (D := D) (ci := 1) (v := .ref a1) (C := RX1) (T := TX1) (N := 1) hx hb hts in_X1 hown hG.1 hP 0 g_De_0 rfl 0 (by decide) k_0 (fun _ h9 => h9) rfl dX1_addOne_65 ?_
          refine lv_iload hx hb dX1_addOne_68 (lv_at hl 1 rfl) ?_
          refine lv_dup2_11 hx hb dX1_addOne_70 rfl rfl ?_
          refine va_iald hx hb hG.1 hP 1 0 (n := 225) (f := de) g_De_1 rfl (bd_indexOf c_1) dX1_addOne_71 ?_
          refine lv_iconst (v := (1 : Int32)) hx hb dX1_addOne_72 (by decide) ?_
          refine lv_iadd hx hb dX1_addOne_73 ?_
          refine va_iast hx hb hG.1 hP hD hS 1 0 (n := 225) (f := de) g_De_1 rfl (bd_indexOf c_1) dX1_addOne_74 (fun H locs hP hD hS => ?_)
          have hP : va_P D vwCl (wDe cy a0 a1 (upd de (m_X1_indexOf x1 x2 x3 x4).toNatClampNeg ((de (m_X1_indexOf x1 x2 x3 x4).toNatClampNeg) + (1 : Int32)))) H := va_P_eq hP s_De_1
          have hD : va_D A (wDe cy a0 a1 (upd de (m_X1_indexOf x1 x2 x3 x4).toNatClampNeg ((de (m_X1_indexOf x1 x2 x3 x4).toNatClampNeg) + (1 : Int32)))) := va_D_eq hD s_De_1
          exact mu_vret hx hb hr hlocks hP hS dX1_addOne_75 (by rw [m_X1_addOne, if_neg c_1, if_neg c_2, if_neg c_3, if_pos c_4])
        · skip
          refine lv_aload_n hx hb dX1_addOne_50 rfl (lv_at hl 2 rfl) ?_
          refine va_get (D := D) (ci := 1) (v := .ref a1) (C := RX1) (T := TX1) (N := 1) hx hb hts in_X1 hown hG.1 hP 0 g_De_0 rfl 0 (by decide) k_0 (fun _ h9 => h9) rfl dX1_addOne_51 ?_
          refine lv_iload hx hb dX1_addOne_54 (lv_at hl 0 rfl) ?_
          refine lv_dup2_11 hx hb dX1_addOne_56 rfl rfl ?_
          refine va_iald hx hb hG.1 hP 1 0 (n := 225) (f := de) g_De_1 rfl (bd_indexOf c_2) dX1_addOne_57 ?_
          refine lv_iconst (v := (1 : Int32)) hx hb dX1_addOne_58 (by decide) ?_
          refine lv_isub hx hb dX1_addOne_59 ?_
          refine va_iast hx hb hG.1 hP hD hS 1 0 (n := 225) (f := de) g_De_1 rfl (bd_indexOf c_2) dX1_addOne_60 (fun H locs hP hD hS => ?_)
          have hP : va_P D vwCl (wDe cy a0 a1 (upd de (m_X1_indexOf x2 x1 x3 x4).toNatClampNeg ((de (m_X1_indexOf x2 x1 x3 x4).toNatClampNeg) - (1 : Int32)))) H := va_P_eq hP s_De_1
          have hD : va_D A (wDe cy a0 a1 (upd de (m_X1_indexOf x2 x1 x3 x4).toNatClampNeg ((de (m_X1_indexOf x2 x1 x3 x4).toNatClampNeg) - (1 : Int32)))) := va_D_eq hD s_De_1
          refine lv_goto (tgt := 75) hx hb dX1_addOne_61 (by decide) ?_
          exact mu_vret hx hb hr hlocks hP hS dX1_addOne_75 (by rw [m_X1_addOne, if_neg c_1, if_neg c_2, if_neg c_3, if_neg c_4])
      · skip
        exact mu_vret hx hb hr hlocks hP hS dX1_addOne_39 (by rw [m_X1_addOne, if_neg c_1, if_neg c_2, if_pos c_3])
def m_X1_removeOne (de : (Nat → Int32)) (x1 : Int32) (x2 : Int32) (x3 : Int32) (x4 : Int32) : (Nat → Int32) := if (m_X1_indexOf x1 x2 x3 x4) = (-1 : Int32) then de else if (de (m_X1_indexOf x1 x2 x3 x4).toNatClampNeg) ≤ (0 : Int32) then de else upd de (m_X1_indexOf x1 x2 x3 x4).toNatClampNeg ((de (m_X1_indexOf x1 x2 x3 x4).toNatClampNeg) - (1 : Int32))
theorem hd_X1_removeOne : yX1_removeOne.cls = RX1 ∧ yX1_removeOne.cls ≠ "java/lang/invoke/MethodHandle" ∧ yX1_removeOne.cls ≠ "java/lang/invoke/VarHandle" ∧ (parseMethodDescriptor yX1_removeOne.desc).map (fun d => d.parameters.length) = some 4 := by decide +kernel
set_option maxHeartbeats 8000000 in
set_option maxRecDepth 20000 in
theorem c_X1_removeOne (l : Launch) (D : va_G) (cy : Nat → ClassId) (a0 a1 : Nat) (de : (Nat → Int32)) (x1 : Int32) (x2 : Int32) (x3 : Int32) (x4 : Int32) : MV l D cy yX1_removeOne wsX1_removeOne ({ frames := 2, cells := 0, slots := 0, locals := 43 } : Room) (wDe cy a0 a1 de) (wDe cy a0 a1 (m_X1_removeOne de x1 x2 x3 x4)) [.ref a0, .int x1, .int x2, .int x3, .int x4] := by
  refine MV.body (by decide) rfl (Nat.le_of_ble_eq_true rfl) ?_
  intro p e s m below meth c hx hb hml hr hts hown hlocks hP hG ls hl A hD hA hS
  have hl : lv_has ls 6 [(0, .ref a0), (1, .int x1), (2, .int x2), (3, .int x3), (4, .int x4)] := hl
  have hCF : CallFix p m c cX1_removeOne 6 s ([.ref a0, .int x1, .int x2, .int x3, .int x4] : List Value).toArray wsX1_removeOne RX1 := ⟨hx, hb, hml, hown, hts⟩
  have in_X1 : ∀ w ∈ u_ws RX1 TX1 1, w ∈ wsX1_removeOne := fun _ h => List.mem_cons_of_mem _ (List.mem_append_right _ h)
  have k_0 := hts (Cond.fieldLink RX1 11 "SparePool$Debts" "owing" "[I") (List.mem_of_getElem? (i := 1) rfl)
  have hP : va_P D vwCl (wDe cy a0 a1 de) s.heap := hP
  refine lv_iload_n hx hb dX1_removeOne_0 rfl (lv_at hl 1 rfl) ?_
  refine lv_iload_n hx hb dX1_removeOne_1 rfl (lv_at hl 2 rfl) ?_
  refine lv_iload_n hx hb dX1_removeOne_2 rfl (lv_at hl 3 rfl) ?_
  refine lv_iload hx hb dX1_removeOne_3 (lv_at hl 4 rfl) ?_
  refine roS (wc := ([] : va_W)) (As := [.int x1, .int x2, .int x3, .int x4]) (rest := []) (c_X1_indexOf l D cy x1 x2 x3 x4) hCF gX1_removeOne_X1_indexOf rfl hd_X1_indexOf ⟨rfl, rfl, Nat.le_of_ble_eq_true rfl, Nat.le_of_ble_eq_true rfl⟩ hG va_P_nil rfl hl.1 rfl (Nat.le_of_ble_eq_true rfl) dX1_removeOne_5 ⟨Nat.le_refl _, Nat.le_refl _⟩ ?_
  refine lv_istore (lv' := [(5, .int (m_X1_indexOf x1 x2 x3 x4)), (0, .ref a0), (1, .int x1), (2, .int x2), (3, .int x3), (4, .int x4)]) hx hb dX1_removeOne_8 hl (by decide) rfl (fun ls hl => ?_)
  refine lv_iload hx hb dX1_removeOne_10 (lv_at hl 0 rfl) ?_
  refine lv_iconst (v := (-1 : Int32)) hx hb dX1_removeOne_12 (by decide) ?_
  refine lv_icmp_eq (tgt := 37) hx hb dX1_removeOne_13 (by decide) (fun c_1 => ?_) (fun c_1 => ?_)
  · skip
    exact mu_vret hx hb hr hlocks hP hS dX1_removeOne_37 (by rw [m_X1_removeOne, if_pos c_1])
  · skip
    refine lv_aload_n hx hb dX1_removeOne_16 rfl (lv_at hl 1 rfl) ?_
    refine va_get (D := D) (ci := 1) (v := .ref a1) (C := RX1) (T := TX1) (N := 1) hx hb hts in_X1 hown hG.1 hP 0 g_De_0 rfl 0 (by decide) k_0 (fun _ h9 => h9) rfl dX1_removeOne_17 ?_
    refine lv_iload hx hb dX1_removeOne_20 (lv_at hl 0 rfl) ?_
    refine va_iald hx hb hG.1 hP 1 0 (n := 225) (f := de) g_De_1 rfl (bd_indexOf c_1) dX1_removeOne_22 ?_
    refine lv_if_le (tgt := 37) hx hb dX1_removeOne_23 (by decide) (fun c_2 => ?_) (fun c_2 => ?_)
    · skip
      exact mu_vret hx hb hr hlocks hP hS dX1_removeOne_37 (by rw [m_X1_removeOne, if_neg c_1, if_pos c_2])
    · skip
      refine lv_aload_n hx hb dX1_removeOne_26 rfl (lv_at hl 1 rfl) ?_
      refine va_get (D := D) (ci := 1) (v := .ref a1) (C := RX1) (T := TX1) (N := 1) hx hb hts in_X1 hown hG.1 hP 0 g_De_0 rfl 0 (by decide) k_0 (fun _ h9 => h9) rfl dX1_removeOne_27 ?_
      refine lv_iload hx hb dX1_removeOne_30 (lv_at hl 0 rfl) ?_
      refine lv_dup2_11 hx hb dX1_removeOne_32 rfl rfl ?_
      refine va_iald hx hb hG.1 hP 1 0 (n := 225) (f := de) g_De_1 rfl (bd_indexOf c_1) dX1_removeOne_33 ?_
      refine lv_iconst (v := (1 : Int32)) hx hb dX1_removeOne_34 (by decide) ?_
      refine lv_isub hx hb dX1_removeOne_35 ?_
      refine va_iast hx hb hG.1 hP hD hS 1 0 (n := 225) (f := de) g_De_1 rfl (bd_indexOf c_1) dX1_removeOne_36 (fun H locs hP hD hS => ?_)
      have hP : va_P D vwCl (wDe cy a0 a1 (upd de (m_X1_indexOf x1 x2 x3 x4).toNatClampNeg ((de (m_X1_indexOf x1 x2 x3 x4).toNatClampNeg) - (1 : Int32)))) H := va_P_eq hP s_De_1
      have hD : va_D A (wDe cy a0 a1 (upd de (m_X1_indexOf x1 x2 x3 x4).toNatClampNeg ((de (m_X1_indexOf x1 x2 x3 x4).toNatClampNeg) - (1 : Int32)))) := va_D_eq hD s_De_1
      exact mu_vret hx hb hr hlocks hP hS dX1_removeOne_37 (by rw [m_X1_removeOne, if_neg c_1, if_neg c_2])
def m_X1_ofAllSorts_L31 : Nat → (Nat → Int32) → Int32 → Int32 → Int32 → Int32 → Int32
  | 0, _, _, _, _, _ => 0
  | nF + 1, de, x1, x2, n, i => if (9 : Int32) ≤ i then n else m_X1_ofAllSorts_L31 nF de x1 x2 (n + (de ((((x1 * (5 : Int32)) + x2) * (9 : Int32)) + i).toNatClampNeg)) (i + (1 : Int32))
def m_X1_ofAllSorts (de : (Nat → Int32)) (x1 : Int32) (x2 : Int32) : Int32 := if (m_X8_isHolder x1) = (0 : Int32) then (0 : Int32) else if (m_X8_isHolder x2) = (0 : Int32) then (0 : Int32) else m_X1_ofAllSorts_L31 100 de x1 x2 (0 : Int32) (0 : Int32)
theorem hd_X1_ofAllSorts : yX1_ofAllSorts.cls = RX1 ∧ yX1_ofAllSorts.cls ≠ "java/lang/invoke/MethodHandle" ∧ yX1_ofAllSorts.cls ≠ "java/lang/invoke/VarHandle" ∧ (parseMethodDescriptor yX1_ofAllSorts.desc).map (fun d => d.parameters.length) = some 2 := by decide +kernel
set_option maxHeartbeats 8000000 in
set_option maxRecDepth 20000 in
theorem c_X1_ofAllSorts (l : Launch) (D : va_G) (cy : Nat → ClassId) (a0 a1 : Nat) (de : (Nat → Int32)) (x1 : Int32) (x2 : Int32) : RO l D cy yX1_ofAllSorts wsX1_ofAllSorts ({ frames := 1, cells := 0, slots := 0, locals := 20 } : Room) (wDe cy a0 a1 de) [.ref a0, .int x1, .int x2] (m_X1_ofAllSorts de x1 x2) := by
  refine RO.body (by decide) rfl (Nat.le_of_ble_eq_true rfl) ?_
  intro p e s m below meth c hx hb hml hr hts hown hlocks hP hG ls hl
  have hl : lv_has ls 6 [(0, .ref a0), (1, .int x1), (2, .int x2)] := hl
  have hCF : CallFix p m c cX1_ofAllSorts 6 s ([.ref a0, .int x1, .int x2] : List Value).toArray wsX1_ofAllSorts RX1 := ⟨hx, hb, hml, hown, hts⟩
  have in_X1 : ∀ w ∈ u_ws RX1 TX1 1, w ∈ wsX1_ofAllSorts := fun _ h => List.mem_cons_of_mem _ (List.mem_append_right _ h)
  have k_0 := hts (Cond.fieldLink RX1 11 "SparePool$Debts" "owing" "[I") (List.mem_of_getElem? (i := 1) rfl)
  have k_1 := hts (Cond.initialized RX8) (List.mem_of_getElem? (i := 3) rfl)
  have k_2 := hts (Cond.static yX8_isHolder) (List.mem_of_getElem? (i := 2) rfl)
  have L_31 : ∀ (nF : Nat) (n : Int32) (i : Int32), 0 ≤ i.toInt → ¬ m_X8_isHolder x1 = 0 → ¬ m_X8_isHolder x2 = 0 → ((9 : Int32).toInt - i.toInt).toNat < nF → m_X1_ofAllSorts_L31 nF de x1 x2 n i = (m_X1_ofAllSorts de x1 x2) → ∀ ls : Array Slot, lv_has ls 6 [(0, .ref a0), (1, .int x1), (2, .int x2), (3, .int (((x1 * (5 : Int32)) + x2) * (9 : Int32))), (4, .int n), (5, .int i)] → W p l e ({ frames := 1, cells := 0, slots := 0, locals := 20 } : Room) s m ([.ref a0, .int x1, .int x2] : List Value).toArray below meth c s.heap [] 0 0 (MQ below (vp_Si (fun v_ => v_ = (m_X1_ofAllSorts de x1 x2))) ([.ref a0, .int x1, .int x2] : List Value).toArray s 0 0 (fun _ => False)) (F0 m 31 ls []) := by
    intro nF
    induction nF with
    | zero => intro n i h0 hb1 hb2 hm; exact absurd hm (Nat.not_lt_zero _)
    | succ nF ih =>
      intro n i h0 hb1 hb2 hm hQ ls hl
      refine lv_iload hx hb dX1_ofAllSorts_31 (lv_at hl 5 rfl) ?_
      refine lv_bipush (v := (9 : Int32)) hx hb dX1_ofAllSorts_33 (by decide) ?_
      refine lv_icmp_ge (tgt := 58) hx hb dX1_ofAllSorts_35 (by decide) (fun c_1 => ?_) (fun c_1 => ?_)
      · skip
        refine lv_iload hx hb dX1_ofAllSorts_58 (lv_at hl 4 rfl) ?_
        exact ro_iret hx hb hr hlocks dX1_ofAllSorts_60 (by rw [← hQ, m_X1_ofAllSorts_L31, if_pos c_1])
      · skip
        refine lv_iload hx hb dX1_ofAllSorts_38 (lv_at hl 4 rfl) ?_
        refine lv_aload_n hx hb dX1_ofAllSorts_40 rfl (lv_at hl 0 rfl) ?_
        refine va_get (D := D) (ci := 1) (v := .ref a1) (C := RX1) (T := TX1) (N := 1) hx hb hts in_X1 hown hG.1 hP 0 g_De_0 rfl 0 (by decide) k_0 (fun _ h9 => h9) rfl dX1_ofAllSorts_41 ?_
        refine lv_iload_n hx hb dX1_ofAllSorts_44 rfl (lv_at hl 3 rfl) ?_
        refine lv_iload hx hb dX1_ofAllSorts_45 (lv_at hl 5 rfl) ?_
        refine lv_iadd hx hb dX1_ofAllSorts_47 ?_
        refine va_iald hx hb hG.1 hP 1 0 (n := 225) (f := de) g_De_1 rfl (bd_sorts hb1 hb2 h0 c_1) dX1_ofAllSorts_48 ?_
        refine lv_iadd hx hb dX1_ofAllSorts_49 ?_
        refine lv_istore (lv' := [(4, .int (n + (de ((((x1 * (5 : Int32)) + x2) * (9 : Int32)) + i).toNatClampNeg))), (0, .ref a0), (1, .int x1), (2, .int x2), (3, .int (((x1 * (5 : Int32)) + x2) * (9 : Int32))), (5, .int i)]) hx hb dX1_ofAllSorts_50 hl (by decide) rfl (fun ls hl => ?_)
        refine lv_iinc (v := (i + (1 : Int32))) (lv' := [(5, .int (i + (1 : Int32))), (4, .int (n + (de ((((x1 * (5 : Int32)) + x2) * (9 : Int32)) + i).toNatClampNeg))), (0, .ref a0), (1, .int x1), (2, .int x2), (3, .int (((x1 * (5 : Int32)) + x2) * (9 : Int32)))]) hx hb dX1_ofAllSorts_52 hl (k := 5) rfl rfl (by decide) rfl (fun ls hl => ?_)
        refine lv_goto (tgt := 31) hx hb dX1_ofAllSorts_55 (by decide) ?_
        exact ih  (n + (de ((((x1 * (5 : Int32)) + x2) * (9 : Int32)) + i).toNatClampNeg)) (i + (1 : Int32)) (lp_up h0 c_1) hb1 hb2 (lp_dec h0 c_1 hm) (by rw [← hQ, m_X1_ofAllSorts_L31, if_neg c_1]) ls (lv_sub hl [2, 3, 4, 5, 1, 0] rfl)
  refine lv_iload_n hx hb dX1_ofAllSorts_0 rfl (lv_at hl 1 rfl) ?_
  refine roSN (wc := ([] : va_W)) (As := [.int x1]) (rest := []) (c_X8_isHolder l D cy x1) hCF gX1_ofAllSorts_X8_isHolder_n21 (nw_X1_21 hG.2) k_1 k_2 rfl hd_X8_isHolder.2 ⟨rfl, rfl, Nat.le_of_ble_eq_true rfl, Nat.le_of_ble_eq_true rfl⟩ hG va_P_nil rfl hl.1 rfl (Nat.le_of_ble_eq_true rfl) dX1_ofAllSorts_1 ⟨Nat.le_refl _, Nat.le_refl _⟩ ?_
  refine lv_if_eq (tgt := 14) hx hb dX1_ofAllSorts_4 (by decide) (fun c_2 => ?_) (fun c_2 => ?_)
  · skip
    refine lv_iconst (v := (0 : Int32)) hx hb dX1_ofAllSorts_14 (by decide) ?_
    exact ro_iret hx hb hr hlocks dX1_ofAllSorts_15 (by rw [m_X1_ofAllSorts, if_pos c_2])
  · skip
    refine lv_iload_n hx hb dX1_ofAllSorts_7 rfl (lv_at hl 2 rfl) ?_
    refine roSN (wc := ([] : va_W)) (As := [.int x2]) (rest := []) (c_X8_isHolder l D cy x2) hCF gX1_ofAllSorts_X8_isHolder_n21 (nw_X1_21 hG.2) k_1 k_2 rfl hd_X8_isHolder.2 ⟨rfl, rfl, Nat.le_of_ble_eq_true rfl, Nat.le_of_ble_eq_true rfl⟩ hG va_P_nil rfl hl.1 rfl (Nat.le_of_ble_eq_true rfl) dX1_ofAllSorts_8 ⟨Nat.le_refl _, Nat.le_refl _⟩ ?_
    refine lv_if_ne (tgt := 16) hx hb dX1_ofAllSorts_11 (by decide) (fun c_3 => ?_) (fun c_3 => ?_)
    · skip
      refine lv_iload_n hx hb dX1_ofAllSorts_16 rfl (lv_at hl 1 rfl) ?_
      refine lv_iconst (v := (5 : Int32)) hx hb dX1_ofAllSorts_17 (by decide) ?_
      refine lv_imul hx hb dX1_ofAllSorts_18 ?_
      refine lv_iload_n hx hb dX1_ofAllSorts_19 rfl (lv_at hl 2 rfl) ?_
      refine lv_iadd hx hb dX1_ofAllSorts_20 ?_
      refine lv_bipush (v := (9 : Int32)) hx hb dX1_ofAllSorts_21 (by decide) ?_
      refine lv_imul hx hb dX1_ofAllSorts_23 ?_
      refine lv_istore_n (lv' := [(3, .int (((x1 * (5 : Int32)) + x2) * (9 : Int32))), (0, .ref a0), (1, .int x1), (2, .int x2)]) hx hb dX1_ofAllSorts_24 rfl hl (by decide) rfl (fun ls hl => ?_)
      refine lv_iconst (v := (0 : Int32)) hx hb dX1_ofAllSorts_25 (by decide) ?_
      refine lv_istore (lv' := [(4, .int (0 : Int32)), (3, .int (((x1 * (5 : Int32)) + x2) * (9 : Int32))), (0, .ref a0), (1, .int x1), (2, .int x2)]) hx hb dX1_ofAllSorts_26 hl (by decide) rfl (fun ls hl => ?_)
      refine lv_iconst (v := (0 : Int32)) hx hb dX1_ofAllSorts_28 (by decide) ?_
      refine lv_istore (lv' := [(5, .int (0 : Int32)), (4, .int (0 : Int32)), (3, .int (((x1 * (5 : Int32)) + x2) * (9 : Int32))), (0, .ref a0), (1, .int x1), (2, .int x2)]) hx hb dX1_ofAllSorts_29 hl (by decide) rfl (fun ls hl => ?_)
      exact L_31 100 (0 : Int32) (0 : Int32) (by decide) c_2 c_3 (lp_init (M := 9) (by decide) (by decide)) (by rw [m_X1_ofAllSorts, if_neg c_2, if_neg c_3]) ls (lv_sub hl [3, 4, 5, 2, 1, 0] rfl)
    · skip
      refine lv_iconst (v := (0 : Int32)) hx hb dX1_ofAllSorts_14 (by decide) ?_
      exact ro_iret hx hb hr hlocks dX1_ofAllSorts_15 (by rw [m_X1_ofAllSorts, if_neg c_2, if_pos c_3])
def m_X1_owedBy_L4 : Nat → (Nat → Int32) → Int32 → Int32 → Int32 → Int32
  | 0, _, _, _, _ => 0
  | nF + 1, de, x1, n, o => if (5 : Int32) ≤ o then n else m_X1_owedBy_L4 nF de x1 (n + (m_X1_ofAllSorts de x1 o)) (o + (1 : Int32))
def m_X1_owedBy (de : (Nat → Int32)) (x1 : Int32) : Int32 := m_X1_owedBy_L4 100 de x1 (0 : Int32) (0 : Int32)
theorem hd_X1_owedBy : yX1_owedBy.cls = RX1 ∧ yX1_owedBy.cls ≠ "java/lang/invoke/MethodHandle" ∧ yX1_owedBy.cls ≠ "java/lang/invoke/VarHandle" ∧ (parseMethodDescriptor yX1_owedBy.desc).map (fun d => d.parameters.length) = some 1 := by decide +kernel
set_option maxHeartbeats 8000000 in
set_option maxRecDepth 20000 in
theorem c_X1_owedBy (l : Launch) (D : va_G) (cy : Nat → ClassId) (a0 a1 : Nat) (de : (Nat → Int32)) (x1 : Int32) : RO l D cy yX1_owedBy wsX1_owedBy ({ frames := 2, cells := 0, slots := 0, locals := 45 } : Room) (wDe cy a0 a1 de) [.ref a0, .int x1] (m_X1_owedBy de x1) := by
  refine RO.body (by decide) rfl (Nat.le_of_ble_eq_true rfl) ?_
  intro p e s m below meth c hx hb hml hr hts hown hlocks hP hG ls hl
  have hl : lv_has ls 4 [(0, .ref a0), (1, .int x1)] := hl
  have hCF : CallFix p m c cX1_owedBy 4 s ([.ref a0, .int x1] : List Value).toArray wsX1_owedBy RX1 := ⟨hx, hb, hml, hown, hts⟩
  have L_4 : ∀ (nF : Nat) (n : Int32) (o : Int32), 0 ≤ o.toInt → ((5 : Int32).toInt - o.toInt).toNat < nF → m_X1_owedBy_L4 nF de x1 n o = (m_X1_owedBy de x1) → ∀ ls : Array Slot, lv_has ls 4 [(0, .ref a0), (1, .int x1), (2, .int n), (3, .int o)] → W p l e ({ frames := 2, cells := 0, slots := 0, locals := 45 } : Room) s m ([.ref a0, .int x1] : List Value).toArray below meth c s.heap [] 0 0 (MQ below (vp_Si (fun v_ => v_ = (m_X1_owedBy de x1))) ([.ref a0, .int x1] : List Value).toArray s 0 0 (fun _ => False)) (F0 m 4 ls []) := by
    intro nF
    induction nF with
    | zero => intro n o h0 hm; exact absurd hm (Nat.not_lt_zero _)
    | succ nF ih =>
      intro n o h0 hm hQ ls hl
      refine lv_iload_n hx hb dX1_owedBy_4 rfl (lv_at hl 3 rfl) ?_
      refine lv_iconst (v := (5 : Int32)) hx hb dX1_owedBy_5 (by decide) ?_
      refine lv_icmp_ge (tgt := 24) hx hb dX1_owedBy_6 (by decide) (fun c_1 => ?_) (fun c_1 => ?_)
      · skip
        refine lv_iload_n hx hb dX1_owedBy_24 rfl (lv_at hl 2 rfl) ?_
        exact ro_iret hx hb hr hlocks dX1_owedBy_25 (by rw [← hQ, m_X1_owedBy_L4, if_pos c_1])
      · skip
        refine lv_iload_n hx hb dX1_owedBy_9 rfl (lv_at hl 2 rfl) ?_
        refine lv_aload_n hx hb dX1_owedBy_10 rfl (lv_at hl 0 rfl) ?_
        refine lv_iload_n hx hb dX1_owedBy_11 rfl (lv_at hl 1 rfl) ?_
        refine lv_iload_n hx hb dX1_owedBy_12 rfl (lv_at hl 3 rfl) ?_
        refine roV (wc := (wDe cy a0 a1 de)) (As := [.int x1, .int o]) (rest := [.int n]) (c_X1_ofAllSorts l D cy a0 a1 de x1 o) hCF gX1_owedBy_X1_ofAllSorts rfl hd_X1_ofAllSorts ⟨rfl, rfl, Nat.le_of_ble_eq_true rfl, Nat.le_of_ble_eq_true rfl⟩ hG hP (ci := 1) rfl rfl g_De_0 rfl hl.1 rfl (Nat.le_of_ble_eq_true rfl) dX1_owedBy_13 ⟨Nat.le_refl _, Nat.le_refl _⟩ ?_
        refine lv_iadd hx hb dX1_owedBy_16 ?_
        refine lv_istore_n (lv' := [(2, .int (n + (m_X1_ofAllSorts de x1 o))), (0, .ref a0), (1, .int x1), (3, .int o)]) hx hb dX1_owedBy_17 rfl hl (by decide) rfl (fun ls hl => ?_)
        refine lv_iinc (v := (o + (1 : Int32))) (lv' := [(3, .int (o + (1 : Int32))), (2, .int (n + (m_X1_ofAllSorts de x1 o))), (0, .ref a0), (1, .int x1)]) hx hb dX1_owedBy_18 hl (k := 3) rfl rfl (by decide) rfl (fun ls hl => ?_)
        refine lv_goto (tgt := 4) hx hb dX1_owedBy_21 (by decide) ?_
        exact ih  (n + (m_X1_ofAllSorts de x1 o)) (o + (1 : Int32)) (lp_up h0 c_1) (lp_dec h0 c_1 hm) (by rw [← hQ, m_X1_owedBy_L4, if_neg c_1]) ls (lv_sub hl [2, 3, 1, 0] rfl)
  refine lv_iconst (v := (0 : Int32)) hx hb dX1_owedBy_0 (by decide) ?_
  refine lv_istore_n (lv' := [(2, .int (0 : Int32)), (0, .ref a0), (1, .int x1)]) hx hb dX1_owedBy_1 rfl hl (by decide) rfl (fun ls hl => ?_)
  refine lv_iconst (v := (0 : Int32)) hx hb dX1_owedBy_2 (by decide) ?_
  refine lv_istore_n (lv' := [(3, .int (0 : Int32)), (2, .int (0 : Int32)), (0, .ref a0), (1, .int x1)]) hx hb dX1_owedBy_3 rfl hl (by decide) rfl (fun ls hl => ?_)
  exact L_4 100 (0 : Int32) (0 : Int32) (by decide) (lp_init (M := 5) (by decide) (by decide)) (by rw [m_X1_owedBy]) ls (lv_sub hl [2, 3, 1, 0] rfl)
def m_X1_owedTo_L4 : Nat → (Nat → Int32) → Int32 → Int32 → Int32 → Int32
  | 0, _, _, _, _ => 0
  | nF + 1, de, x1, n, o => if (5 : Int32) ≤ o then n else m_X1_owedTo_L4 nF de x1 (n + (m_X1_ofAllSorts de o x1)) (o + (1 : Int32))
def m_X1_owedTo (de : (Nat → Int32)) (x1 : Int32) : Int32 := m_X1_owedTo_L4 100 de x1 (0 : Int32) (0 : Int32)
theorem hd_X1_owedTo : yX1_owedTo.cls = RX1 ∧ yX1_owedTo.cls ≠ "java/lang/invoke/MethodHandle" ∧ yX1_owedTo.cls ≠ "java/lang/invoke/VarHandle" ∧ (parseMethodDescriptor yX1_owedTo.desc).map (fun d => d.parameters.length) = some 1 := by decide +kernel
set_option maxHeartbeats 8000000 in
set_option maxRecDepth 20000 in
theorem c_X1_owedTo (l : Launch) (D : va_G) (cy : Nat → ClassId) (a0 a1 : Nat) (de : (Nat → Int32)) (x1 : Int32) : RO l D cy yX1_owedTo wsX1_owedTo ({ frames := 2, cells := 0, slots := 0, locals := 45 } : Room) (wDe cy a0 a1 de) [.ref a0, .int x1] (m_X1_owedTo de x1) := by
  refine RO.body (by decide) rfl (Nat.le_of_ble_eq_true rfl) ?_
  intro p e s m below meth c hx hb hml hr hts hown hlocks hP hG ls hl
  have hl : lv_has ls 4 [(0, .ref a0), (1, .int x1)] := hl
  have hCF : CallFix p m c cX1_owedTo 4 s ([.ref a0, .int x1] : List Value).toArray wsX1_owedTo RX1 := ⟨hx, hb, hml, hown, hts⟩
  have L_4 : ∀ (nF : Nat) (n : Int32) (o : Int32), 0 ≤ o.toInt → ((5 : Int32).toInt - o.toInt).toNat < nF → m_X1_owedTo_L4 nF de x1 n o = (m_X1_owedTo de x1) → ∀ ls : Array Slot, lv_has ls 4 [(0, .ref a0), (1, .int x1), (2, .int n), (3, .int o)] → W p l e ({ frames := 2, cells := 0, slots := 0, locals := 45 } : Room) s m ([.ref a0, .int x1] : List Value).toArray below meth c s.heap [] 0 0 (MQ below (vp_Si (fun v_ => v_ = (m_X1_owedTo de x1))) ([.ref a0, .int x1] : List Value).toArray s 0 0 (fun _ => False)) (F0 m 4 ls []) := by
    intro nF
    induction nF with
    | zero => intro n o h0 hm; exact absurd hm (Nat.not_lt_zero _)
    | succ nF ih =>
      intro n o h0 hm hQ ls hl
      refine lv_iload_n hx hb dX1_owedTo_4 rfl (lv_at hl 3 rfl) ?_
      refine lv_iconst (v := (5 : Int32)) hx hb dX1_owedTo_5 (by decide) ?_
      refine lv_icmp_ge (tgt := 24) hx hb dX1_owedTo_6 (by decide) (fun c_1 => ?_) (fun c_1 => ?_)
      · skip
        refine lv_iload_n hx hb dX1_owedTo_24 rfl (lv_at hl 2 rfl) ?_
        exact ro_iret hx hb hr hlocks dX1_owedTo_25 (by rw [← hQ, m_X1_owedTo_L4, if_pos c_1])
      · skip
        refine lv_iload_n hx hb dX1_owedTo_9 rfl (lv_at hl 2 rfl) ?_
        refine lv_aload_n hx hb dX1_owedTo_10 rfl (lv_at hl 0 rfl) ?_
        refine lv_iload_n hx hb dX1_owedTo_11 rfl (lv_at hl 3 rfl) ?_
        refine lv_iload_n hx hb dX1_owedTo_12 rfl (lv_at hl 1 rfl) ?_
        refine roV (wc := (wDe cy a0 a1 de)) (As := [.int o, .int x1]) (rest := [.int n]) (c_X1_ofAllSorts l D cy a0 a1 de o x1) hCF gX1_owedTo_X1_ofAllSorts rfl hd_X1_ofAllSorts ⟨rfl, rfl, Nat.le_of_ble_eq_true rfl, Nat.le_of_ble_eq_true rfl⟩ hG hP (ci := 1) rfl rfl g_De_0 rfl hl.1 rfl (Nat.le_of_ble_eq_true rfl) dX1_owedTo_13 ⟨Nat.le_refl _, Nat.le_refl _⟩ ?_
        refine lv_iadd hx hb dX1_owedTo_16 ?_
        refine lv_istore_n (lv' := [(2, .int (n + (m_X1_ofAllSorts de o x1))), (0, .ref a0), (1, .int x1), (3, .int o)]) hx hb dX1_owedTo_17 rfl hl (by decide) rfl (fun ls hl => ?_)
        refine lv_iinc (v := (o + (1 : Int32))) (lv' := [(3, .int (o + (1 : Int32))), (2, .int (n + (m_X1_ofAllSorts de o x1))), (0, .ref a0), (1, .int x1)]) hx hb dX1_owedTo_18 hl (k := 3) rfl rfl (by decide) rfl (fun ls hl => ?_)
        refine lv_goto (tgt := 4) hx hb dX1_owedTo_21 (by decide) ?_
        exact ih  (n + (m_X1_ofAllSorts de o x1)) (o + (1 : Int32)) (lp_up h0 c_1) (lp_dec h0 c_1 hm) (by rw [← hQ, m_X1_owedTo_L4, if_neg c_1]) ls (lv_sub hl [2, 3, 1, 0] rfl)
  refine lv_iconst (v := (0 : Int32)) hx hb dX1_owedTo_0 (by decide) ?_
  refine lv_istore_n (lv' := [(2, .int (0 : Int32)), (0, .ref a0), (1, .int x1)]) hx hb dX1_owedTo_1 rfl hl (by decide) rfl (fun ls hl => ?_)
  refine lv_iconst (v := (0 : Int32)) hx hb dX1_owedTo_2 (by decide) ?_
  refine lv_istore_n (lv' := [(3, .int (0 : Int32)), (2, .int (0 : Int32)), (0, .ref a0), (1, .int x1)]) hx hb dX1_owedTo_3 rfl hl (by decide) rfl (fun ls hl => ?_)
  exact L_4 100 (0 : Int32) (0 : Int32) (by decide) (lp_init (M := 5) (by decide) (by decide)) (by rw [m_X1_owedTo]) ls (lv_sub hl [2, 3, 1, 0] rfl)
def m_X1_all_L4 : Nat → (Nat → Int32) → Int32 → Int32 → Int32
  | 0, _, _, _ => 0
  | nF + 1, de, n, h => if (5 : Int32) ≤ h then n else m_X1_all_L4 nF de (n + (m_X1_owedBy de h)) (h + (1 : Int32))
def m_X1_all (de : (Nat → Int32)) : Int32 := m_X1_all_L4 100 de (0 : Int32) (0 : Int32)
theorem hd_X1_all : yX1_all.cls = RX1 ∧ yX1_all.cls ≠ "java/lang/invoke/MethodHandle" ∧ yX1_all.cls ≠ "java/lang/invoke/VarHandle" ∧ (parseMethodDescriptor yX1_all.desc).map (fun d => d.parameters.length) = some 0 := by decide +kernel
set_option maxHeartbeats 8000000 in
set_option maxRecDepth 20000 in
theorem c_X1_all (l : Launch) (D : va_G) (cy : Nat → ClassId) (a0 a1 : Nat) (de : (Nat → Int32)) : RO l D cy yX1_all wsX1_all ({ frames := 3, cells := 0, slots := 0, locals := 68 } : Room) (wDe cy a0 a1 de) [.ref a0] (m_X1_all de) := by
  refine RO.body (by decide) rfl (Nat.le_of_ble_eq_true rfl) ?_
  intro p e s m below meth c hx hb hml hr hts hown hlocks hP hG ls hl
  have hl : lv_has ls 3 [(0, .ref a0)] := hl
  have hCF : CallFix p m c cX1_all 3 s ([.ref a0] : List Value).toArray wsX1_all RX1 := ⟨hx, hb, hml, hown, hts⟩
  have L_4 : ∀ (nF : Nat) (n : Int32) (h : Int32), 0 ≤ h.toInt → ((5 : Int32).toInt - h.toInt).toNat < nF → m_X1_all_L4 nF de n h = (m_X1_all de) → ∀ ls : Array Slot, lv_has ls 3 [(0, .ref a0), (1, .int n), (2, .int h)] → W p l e ({ frames := 3, cells := 0, slots := 0, locals := 68 } : Room) s m ([.ref a0] : List Value).toArray below meth c s.heap [] 0 0 (MQ below (vp_Si (fun v_ => v_ = (m_X1_all de))) ([.ref a0] : List Value).toArray s 0 0 (fun _ => False)) (F0 m 4 ls []) := by
    intro nF
    induction nF with
    | zero => intro n h h0 hm; exact absurd hm (Nat.not_lt_zero _)
    | succ nF ih =>
      intro n h h0 hm hQ ls hl
      refine lv_iload_n hx hb dX1_all_4 rfl (lv_at hl 2 rfl) ?_
      refine lv_iconst (v := (5 : Int32)) hx hb dX1_all_5 (by decide) ?_
      refine lv_icmp_ge (tgt := 23) hx hb dX1_all_6 (by decide) (fun c_1 => ?_) (fun c_1 => ?_)
      · skip
        refine lv_iload_n hx hb dX1_all_23 rfl (lv_at hl 1 rfl) ?_
        exact ro_iret hx hb hr hlocks dX1_all_24 (by rw [← hQ, m_X1_all_L4, if_pos c_1])
      · skip
        refine lv_iload_n hx hb dX1_all_9 rfl (lv_at hl 1 rfl) ?_
        refine lv_aload_n hx hb dX1_all_10 rfl (lv_at hl 0 rfl) ?_
        refine lv_iload_n hx hb dX1_all_11 rfl (lv_at hl 2 rfl) ?_
        refine roV (wc := (wDe cy a0 a1 de)) (As := [.int h]) (rest := [.int n]) (c_X1_owedBy l D cy a0 a1 de h) hCF gX1_all_X1_owedBy rfl hd_X1_owedBy ⟨rfl, rfl, Nat.le_of_ble_eq_true rfl, Nat.le_of_ble_eq_true rfl⟩ hG hP (ci := 1) rfl rfl g_De_0 rfl hl.1 rfl (Nat.le_of_ble_eq_true rfl) dX1_all_12 ⟨Nat.le_refl _, Nat.le_refl _⟩ ?_
        refine lv_iadd hx hb dX1_all_15 ?_
        refine lv_istore_n (lv' := [(1, .int (n + (m_X1_owedBy de h))), (0, .ref a0), (2, .int h)]) hx hb dX1_all_16 rfl hl (by decide) rfl (fun ls hl => ?_)
        refine lv_iinc (v := (h + (1 : Int32))) (lv' := [(2, .int (h + (1 : Int32))), (1, .int (n + (m_X1_owedBy de h))), (0, .ref a0)]) hx hb dX1_all_17 hl (k := 2) rfl rfl (by decide) rfl (fun ls hl => ?_)
        refine lv_goto (tgt := 4) hx hb dX1_all_20 (by decide) ?_
        exact ih  (n + (m_X1_owedBy de h)) (h + (1 : Int32)) (lp_up h0 c_1) (lp_dec h0 c_1 hm) (by rw [← hQ, m_X1_all_L4, if_neg c_1]) ls (lv_sub hl [2, 1, 0] rfl)
  refine lv_iconst (v := (0 : Int32)) hx hb dX1_all_0 (by decide) ?_
  refine lv_istore_n (lv' := [(1, .int (0 : Int32)), (0, .ref a0)]) hx hb dX1_all_1 rfl hl (by decide) rfl (fun ls hl => ?_)
  refine lv_iconst (v := (0 : Int32)) hx hb dX1_all_2 (by decide) ?_
  refine lv_istore_n (lv' := [(2, .int (0 : Int32)), (1, .int (0 : Int32)), (0, .ref a0)]) hx hb dX1_all_3 rfl hl (by decide) rfl (fun ls hl => ?_)
  exact L_4 100 (0 : Int32) (0 : Int32) (by decide) (lp_init (M := 5) (by decide) (by decide)) (by rw [m_X1_all]) ls (lv_sub hl [2, 1, 0] rfl)
def m_X1_clear_L2 : Nat → (Nat → Int32) → Int32 → (Nat → Int32)
  | 0, r, _ => r
  | nF + 1, r, i => if (225 : Int32) ≤ i then r else m_X1_clear_L2 nF (upd r i.toNatClampNeg (0 : Int32)) (i + (1 : Int32))
def m_X1_clear (de : (Nat → Int32)) : (Nat → Int32) := m_X1_clear_L2 1000 de (0 : Int32)
theorem hd_X1_clear : yX1_clear.cls = RX1 ∧ yX1_clear.cls ≠ "java/lang/invoke/MethodHandle" ∧ yX1_clear.cls ≠ "java/lang/invoke/VarHandle" ∧ (parseMethodDescriptor yX1_clear.desc).map (fun d => d.parameters.length) = some 0 := by decide +kernel
set_option maxHeartbeats 8000000 in
set_option maxRecDepth 20000 in
theorem c_X1_clear (l : Launch) (D : va_G) (cy : Nat → ClassId) (a0 a1 : Nat) (de : (Nat → Int32)) : MV l D cy yX1_clear wsX1_clear ({ frames := 0, cells := 0, slots := 0, locals := 0 } : Room) (wDe cy a0 a1 de) (wDe cy a0 a1 (m_X1_clear de)) [.ref a0] := by
  refine MV.body (by decide) rfl (Nat.le_of_ble_eq_true rfl) ?_
  intro p e s m below meth c hx hb hml hr hts hown hlocks hP hG ls hl A hD hA hS
  have hl : lv_has ls 2 [(0, .ref a0)] := hl
  have hCF : CallFix p m c cX1_clear 2 s ([.ref a0] : List Value).toArray wsX1_clear RX1 := ⟨hx, hb, hml, hown, hts⟩
  have in_X1 : ∀ w ∈ u_ws RX1 TX1 1, w ∈ wsX1_clear := fun _ h => List.mem_cons_of_mem _ (List.mem_append_right _ h)
  have k_0 := hts (Cond.fieldLink RX1 11 "SparePool$Debts" "owing" "[I") (List.mem_of_getElem? (i := 1) rfl)
  have hP : va_P D vwCl (wDe cy a0 a1 de) s.heap := hP
  have L_2 : ∀ (nF : Nat) (r : (Nat → Int32)) (i : Int32), 0 ≤ i.toInt → ((225 : Int32).toInt - i.toInt).toNat < nF → m_X1_clear_L2 nF r i = (m_X1_clear de) → ∀ (H : Heap) (locs : List Loc), va_P D vwCl (wDe cy a0 a1 r) H → va_D A (wDe cy a0 a1 r) → va_S A s.heap H locs → ∀ ls : Array Slot, lv_has ls 2 [(0, .ref a0), (1, .int i)] → W p l e ({ frames := 0, cells := 0, slots := 0, locals := 0 } : Room) s m ([.ref a0] : List Value).toArray below meth c H locs 0 0 (MQ below (va_Qv (fun (_ : Unit) => True) (fun _ t => va_P D vwCl (wDe cy a0 a1 (m_X1_clear de)) t.heap) A) ([.ref a0] : List Value).toArray s 0 0 A) (F0 m 2 ls []) := by
    intro nF
    induction nF with
    | zero => intro r i h0 hm; exact absurd hm (Nat.not_lt_zero _)
    | succ nF ih =>
      intro r i h0 hm hQ H locs hP hD hS ls hl
      refine lv_iload_n hx hb dX1_clear_2 rfl (lv_at hl 1 rfl) ?_
      refine lv_sipush (v := (225 : Int32)) hx hb dX1_clear_3 (by decide) ?_
      refine lv_icmp_ge (tgt := 22) hx hb dX1_clear_6 (by decide) (fun c_1 => ?_) (fun c_1 => ?_)
      · skip
        exact mu_vret hx hb hr hlocks hP hS dX1_clear_22 (by rw [← hQ, m_X1_clear_L2, if_pos c_1])
      · skip
        refine lv_aload_n hx hb dX1_clear_9 rfl (lv_at hl 0 rfl) ?_
        refine va_get (D := D) (ci := 1) (v := .ref a1) (C := RX1) (T := TX1) (N := 1) hx hb hts in_X1 hown hG.1 hP 0 g_De_0 rfl 0 (by decide) k_0 (fun _ h9 => h9) rfl dX1_clear_10 ?_
        refine lv_iload_n hx hb dX1_clear_13 rfl (lv_at hl 1 rfl) ?_
        refine lv_iconst (v := (0 : Int32)) hx hb dX1_clear_14 (by decide) ?_
        refine va_iast hx hb hG.1 hP hD hS 1 0 (n := 225) (f := r) g_De_1 rfl (bd_loop h0 c_1 ((by decide))) dX1_clear_15 (fun H locs hP hD hS => ?_)
        have hP : va_P D vwCl (wDe cy a0 a1 (upd r i.toNatClampNeg (0 : Int32))) H := va_P_eq hP s_De_1
        have hD : va_D A (wDe cy a0 a1 (upd r i.toNatClampNeg (0 : Int32))) := va_D_eq hD s_De_1
        refine lv_iinc (v := (i + (1 : Int32))) (lv' := [(1, .int (i + (1 : Int32))), (0, .ref a0)]) hx hb dX1_clear_16 hl (k := 1) rfl rfl (by decide) rfl (fun ls hl => ?_)
        refine lv_goto (tgt := 2) hx hb dX1_clear_19 (by decide) ?_
        exact ih  (upd r i.toNatClampNeg (0 : Int32)) (i + (1 : Int32)) (lp_up h0 c_1) (lp_dec h0 c_1 hm) (by rw [← hQ, m_X1_clear_L2, if_neg c_1]) H locs hP hD hS ls (lv_sub hl [1, 0] rfl)
  refine lv_iconst (v := (0 : Int32)) hx hb dX1_clear_0 (by decide) ?_
  refine lv_istore_n (lv' := [(1, .int (0 : Int32)), (0, .ref a0)]) hx hb dX1_clear_1 rfl hl (by decide) rfl (fun ls hl => ?_)
  exact L_2 1000 de (0 : Int32) (by decide) (lp_init (M := 225) (by decide) (by decide)) (by rw [m_X1_clear]) s.heap [] hP hD hS ls (lv_sub hl [1, 0] rfl)
