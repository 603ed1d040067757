def m_X3_limit_L4 : Nat → Int32 → Int64 → Int32 → Int64
  | 0, _, _, _ => 0
  | nF + 1, x1, al, k => if x1 ≤ k then al else if (3 : Int32) ≤ k then al else m_X3_limit_L4 nF x1 (al * (1000000 : Int64)) (k + (1 : Int32))
def m_X3_limit (x1 : Int32) : Int64 := m_X3_limit_L4 100 x1 (1 : Int64) (0 : Int32)
theorem hd_X3_limit : yX3_limit.cls = RX3 ∧ yX3_limit.cls ≠ "java/lang/invoke/MethodHandle" ∧ yX3_limit.cls ≠ "java/lang/invoke/VarHandle" ∧ (parseMethodDescriptor yX3_limit.desc).map (fun d => d.parameters.length) = some 1 := by decide +kernel
set_option maxHeartbeats 8000000 in
set_option maxRecDepth 20000 in
theorem c_X3_limit (l : Launch) (D : va_G) (cy : Nat → ClassId) (x1 : Int32) : ROl l D cy yX3_limit wsX3_limit ({ frames := 0, cells := 0, slots := 0, locals := 0 } : Room) ([] : va_W) [.int x1] (m_X3_limit x1) := by
  refine ROl.body (by decide) rfl (Nat.le_of_ble_eq_true rfl) ?_
  intro p e s m below meth c hx hb hml hr hts hown hlocks hP hG ls hl
  have hl : lv_has ls 4 [(0, .int x1)] := hl
  have hCF : CallFix p m c cX3_limit 4 s ([.int x1] : List Value).toArray wsX3_limit RX3 := ⟨hx, hb, hml, hown, hts⟩
  have k_0 := hts (Cond.constantLong RX3 11 (1000000)) (List.mem_of_getElem? (i := 1) rfl)
  have L_4 : ∀ (nF : Nat) (al : Int64) (k : Int32), 0 ≤ k.toInt → ((3 : Int32).toInt - k.toInt).toNat < nF → m_X3_limit_L4 nF x1 al k = (m_X3_limit x1) → ∀ ls : Array Slot, lv_has ls 4 [(0, .int x1), (1, .long al), (3, .int k)] → W p l e ({ frames := 0, cells := 0, slots := 0, locals := 0 } : Room) s m ([.int x1] : List Value).toArray below meth c s.heap [] 0 0 (MQ below (vp_Sl (fun v_ => v_ = (m_X3_limit x1))) ([.int x1] : List Value).toArray s 0 0 (fun _ => False)) (F0 m 4 ls []) := by
    intro nF
    induction nF with
    | zero => intro al k h0 hm; exact absurd hm (Nat.not_lt_zero _)
    | succ nF ih =>
      intro al k h0 hm hQ ls hl
      refine lv_iload_n hx hb dX3_limit_4 rfl (lv_at hl 2 rfl) ?_
      refine lv_iload_n hx hb dX3_limit_5 rfl (lv_at hl 0 rfl) ?_
      refine lv_icmp_ge (tgt := 26) hx hb dX3_limit_6 (by decide) (fun c_1 => ?_) (fun c_1 => ?_)
      · skip
        refine lv_lload_n hx hb dX3_limit_26 rfl (lv_at hl 1 rfl) ?_
        exact ro_lret hx hb hr hlocks dX3_limit_27 (by rw [← hQ, m_X3_limit_L4, if_pos c_1])
      · skip
        refine lv_iload_n hx hb dX3_limit_9 rfl (lv_at hl 2 rfl) ?_
        refine lv_iconst (v := (3 : Int32)) hx hb dX3_limit_10 (by decide) ?_
        refine lv_icmp_ge (tgt := 26) hx hb dX3_limit_11 (by decide) (fun c_2 => ?_) (fun c_2 => ?_)
        · skip
          refine lv_lload_n hx hb dX3_limit_26 rfl (lv_at hl 1 rfl) ?_
          exact ro_lret hx hb hr hlocks dX3_limit_27 (by rw [← hQ, m_X3_limit_L4, if_neg c_1, if_pos c_2])
        · skip
          refine lv_lload_n hx hb dX3_limit_14 rfl (lv_at hl 1 rfl) ?_
          refine lv_ldc2 (v := (1000000 : Int64)) hx hb hown k_0 dX3_limit_15 ?_
          refine lv_lmul hx hb dX3_limit_18 ?_
          refine lv_lstore_n (lv' := [(1, .long (al * (1000000 : Int64))), (0, .int x1), (3, .int k)]) hx hb dX3_limit_19 rfl hl (by decide) rfl (fun ls hl => ?_)
          refine lv_iinc (v := (k + (1 : Int32))) (lv' := [(3, .int (k + (1 : Int32))), (1, .long (al * (1000000 : Int64))), (0, .int x1)]) hx hb dX3_limit_20 hl (k := 2) rfl rfl (by decide) rfl (fun ls hl => ?_)
          refine lv_goto (tgt := 4) hx hb dX3_limit_23 (by decide) ?_
          exact ih  (al * (1000000 : Int64)) (k + (1 : Int32)) (lp_up h0 c_2) (lp_dec h0 c_2 hm) (by rw [← hQ, m_X3_limit_L4, if_neg c_1, if_neg c_2]) ls (lv_sub hl [2, 1, 0] rfl)
  refine lv_lconst (v := (1 : Int64)) hx hb dX3_limit_0 (by decide) ?_
  refine lv_lstore_n (lv' := [(1, .long (1 : Int64)), (0, .int x1)]) hx hb dX3_limit_1 rfl hl (by decide) rfl (fun ls hl => ?_)
  refine lv_iconst (v := (0 : Int32)) hx hb dX3_limit_2 (by decide) ?_
  refine lv_istore_n (lv' := [(3, .int (0 : Int32)), (1, .long (1 : Int64)), (0, .int x1)]) hx hb dX3_limit_3 rfl hl (by decide) rfl (fun ls hl => ?_)
  exact L_4 100 (1 : Int64) (0 : Int32) (by decide) (lp_init (M := 3) (by decide) (by decide)) (by rw [m_X3_limit]) ls (lv_sub hl [2, 1, 0] rfl)
def m_X3_group_L5 : Nat → Int64 → Int32 → Int64 → Int32 → Int32
  | 0, _, _, _, _ => 0
  | nF + 1, x1, x2, re, k => if x2 ≤ k then (re - ((re / (1000000 : Int64)) * (1000000 : Int64))).toInt32 else if (3 : Int32) ≤ k then (re - ((re / (1000000 : Int64)) * (1000000 : Int64))).toInt32 else m_X3_group_L5 nF x1 x2 (re / (1000000 : Int64)) (k + (1 : Int32))
def m_X3_group (x1 : Int64) (x2 : Int32) : Int32 := m_X3_group_L5 100 x1 x2 x1 (0 : Int32)
theorem hd_X3_group : yX3_group.cls = RX3 ∧ yX3_group.cls ≠ "java/lang/invoke/MethodHandle" ∧ yX3_group.cls ≠ "java/lang/invoke/VarHandle" ∧ (parseMethodDescriptor yX3_group.desc).map (fun d => d.parameters.length) = some 2 := by decide +kernel
set_option maxHeartbeats 8000000 in
set_option maxRecDepth 20000 in
theorem c_X3_group (l : Launch) (D : va_G) (cy : Nat → ClassId) (x1 : Int64) (x2 : Int32) : RO l D cy yX3_group wsX3_group ({ frames := 0, cells := 0, slots := 0, locals := 0 } : Room) ([] : va_W) [.long x1, .int x2] (m_X3_group x1 x2) := by
  refine RO.body (by decide) rfl (Nat.le_of_ble_eq_true rfl) ?_
  intro p e s m below meth c hx hb hml hr hts hown hlocks hP hG ls hl
  have hl : lv_has ls 6 [(0, .long x1), (2, .int x2)] := hl
  have hCF : CallFix p m c cX3_group 6 s ([.long x1, .int x2] : List Value).toArray wsX3_group RX3 := ⟨hx, hb, hml, hown, hts⟩
  have k_0 := hts (Cond.constantLong RX3 11 (1000000)) (List.mem_of_getElem? (i := 1) rfl)
  have L_5 : ∀ (nF : Nat) (re : Int64) (k : Int32), 0 ≤ k.toInt → ((3 : Int32).toInt - k.toInt).toNat < nF → m_X3_group_L5 nF x1 x2 re k = (m_X3_group x1 x2) → ∀ ls : Array Slot, lv_has ls 6 [(0, .long x1), (2, .int x2), (3, .long re), (5, .int k)] → W p l e ({ frames := 0, cells := 0, slots := 0, locals := 0 } : Room) s m ([.long x1, .int x2] : List Value).toArray below meth c s.heap [] 0 0 (MQ below (vp_Si (fun v_ => v_ = (m_X3_group x1 x2))) ([.long x1, .int x2] : List Value).toArray s 0 0 (fun _ => False)) (F0 m 5 ls []) := by
    intro nF
    induction nF with
    | zero => intro re k h0 hm; exact absurd hm (Nat.not_lt_zero _)
    | succ nF ih =>
      intro re k h0 hm hQ ls hl
      refine lv_iload hx hb dX3_group_5 (lv_at hl 3 rfl) ?_
      refine lv_iload_n hx hb dX3_group_7 rfl (lv_at hl 1 rfl) ?_
      refine lv_icmp_ge (tgt := 29) hx hb dX3_group_8 (by decide) (fun c_1 => ?_) (fun c_1 => ?_)
      · skip
        refine lv_lload_n hx hb dX3_group_29 rfl (lv_at hl 2 rfl) ?_
        refine lv_ldc2 (v := (1000000 : Int64)) hx hb hown k_0 dX3_group_30 ?_
        refine lv_lrem hx hb dX3_group_33 (by decide) ?_
        refine lv_l2i hx hb dX3_group_34 rfl ?_
        exact ro_iret hx hb hr hlocks dX3_group_35 (by rw [← hQ, m_X3_group_L5, if_pos c_1])
      · skip
        refine lv_iload hx hb dX3_group_11 (lv_at hl 3 rfl) ?_
        refine lv_iconst (v := (3 : Int32)) hx hb dX3_group_13 (by decide) ?_
        refine lv_icmp_ge (tgt := 29) hx hb dX3_group_14 (by decide) (fun c_2 => ?_) (fun c_2 => ?_)
        · skip
          refine lv_lload_n hx hb dX3_group_29 rfl (lv_at hl 2 rfl) ?_
          refine lv_ldc2 (v := (1000000 : Int64)) hx hb hown k_0 dX3_group_30 ?_
          refine lv_lrem hx hb dX3_group_33 (by decide) ?_
          refine lv_l2i hx hb dX3_group_34 rfl ?_
          exact ro_iret hx hb hr hlocks dX3_group_35 (by rw [← hQ, m_X3_group_L5, if_neg c_1, if_pos c_2])
        · skip
          refine lv_lload_n hx hb dX3_group_17 rfl (lv_at hl 2 rfl) ?_
          refine lv_ldc2 (v := (1000000 : Int64)) hx hb hown k_0 dX3_group_18 ?_
          refine lv_ldiv hx hb dX3_group_21 (by decide) ?_
          refine lv_lstore_n (lv' := [(3, .long (re / (1000000 : Int64))), (0, .long x1), (2, .int x2), (5, .int k)]) hx hb dX3_group_22 rfl hl (by decide) rfl (fun ls hl => ?_)
          refine lv_iinc (v := (k + (1 : Int32))) (lv' := [(5, .int (k + (1 : Int32))), (3, .long (re / (1000000 : Int64))), (0, .long x1), (2, .int x2)]) hx hb dX3_group_23 hl (k := 3) rfl rfl (by decide) rfl (fun ls hl => ?_)
          refine lv_goto (tgt := 5) hx hb dX3_group_26 (by decide) ?_
          exact ih  (re / (1000000 : Int64)) (k + (1 : Int32)) (lp_up h0 c_2) (lp_dec h0 c_2 hm) (by rw [← hQ, m_X3_group_L5, if_neg c_1, if_neg c_2]) ls (lv_sub hl [2, 3, 1, 0] rfl)
  refine lv_lload_n hx hb dX3_group_0 rfl (lv_at hl 0 rfl) ?_
  refine lv_lstore_n (lv' := [(3, .long x1), (0, .long x1), (2, .int x2)]) hx hb dX3_group_1 rfl hl (by decide) rfl (fun ls hl => ?_)
  refine lv_iconst (v := (0 : Int32)) hx hb dX3_group_2 (by decide) ?_
  refine lv_istore (lv' := [(5, .int (0 : Int32)), (3, .long x1), (0, .long x1), (2, .int x2)]) hx hb dX3_group_3 hl (by decide) rfl (fun ls hl => ?_)
  exact L_5 100 x1 (0 : Int32) (by decide) (lp_init (M := 3) (by decide) (by decide)) (by rw [m_X3_group]) ls (lv_sub hl [2, 3, 1, 0] rfl)
def m_X3_isAt (st : StT) (x1 : Int32) (x2 : Int32) : Int32 := if (m_X7_has (sU st) x1) = (0 : Int32) then (0 : Int32) else if (m_X8_isHolder x2) = (0 : Int32) then (0 : Int32) else if ((uP (sU st)) x1.toNatClampNeg) = x2 then (1 : Int32) else (0 : Int32)
theorem hd_X3_isAt : yX3_isAt.cls = RX3 ∧ yX3_isAt.cls ≠ "java/lang/invoke/MethodHandle" ∧ yX3_isAt.cls ≠ "java/lang/invoke/VarHandle" ∧ (parseMethodDescriptor yX3_isAt.desc).map (fun d => d.parameters.length) = some 3 := by decide +kernel
set_option maxHeartbeats 8000000 in
set_option maxRecDepth 20000 in
theorem c_X3_isAt (l : Launch) (D : va_G) (cy : Nat → ClassId) (a : Nat → Nat) (st : StT) (x1 : Int32) (x2 : Int32) (hOK : stOK st) : RO l D cy yX3_isAt wsX3_isAt ({ frames := 1, cells := 0, slots := 0, locals := 21 } : Room) (wSt cy a st) [.ref (a 0), .int x1, .int x2] (m_X3_isAt st x1 x2) := by
  refine RO.body (by decide) rfl (Nat.le_of_ble_eq_true rfl) ?_
  intro p e s m below meth c hx hb hml hr hts hown hlocks hP hG ls hl
  have hl : lv_has ls 3 [(0, .ref (a 0)), (1, .int x1), (2, .int x2)] := hl
  have hCF : CallFix p m c cX3_isAt 3 s ([.ref (a 0), .int x1, .int x2] : List Value).toArray wsX3_isAt RX3 := ⟨hx, hb, hml, hown, hts⟩
  have in_X5 : ∀ w ∈ u_ws RX5 TX5 9, w ∈ wsX3_isAt := fun _ h => List.mem_cons_of_mem _ (List.mem_append_left _ (List.mem_append_right _ h))
  have in_X7 : ∀ w ∈ u_ws RX7 TX7 6, w ∈ wsX3_isAt := fun _ h => List.mem_cons_of_mem _ (List.mem_append_right _ h)
  have k_0 := hts (Cond.initialized RX7) (List.mem_of_getElem? (i := 2) rfl)
  have k_1 := hts (Cond.instanceMethod yX7_has) (List.mem_of_getElem? (i := 1) rfl)
  have k_2 := hts (Cond.selects RX7 yX7_has yX7_has) (List.mem_of_getElem? (i := 3) rfl)
  have k_3 := hts (Cond.initialized RX8) (List.mem_of_getElem? (i := 7) rfl)
  have k_4 := hts (Cond.static yX8_isHolder) (List.mem_of_getElem? (i := 6) rfl)
  refine lv_aload_n hx hb dX3_isAt_0 rfl (lv_at hl 0 rfl) ?_
  refine va_getN (D := D) (ci := 3) (v := .ref (a 1)) (C := RX5) (T := TX5) (N := 9) hx hb hts in_X5 hown hG.1 hP 0 g_St_0 rfl 0 (by decide) (va_Nw.use rfl (nw_X3_44 hG.2)) (fun _ h9 => h9) rfl dX3_isAt_1 ?_
  refine lv_iload_n hx hb dX3_isAt_4 rfl (lv_at hl 1 rfl) ?_
  refine roVN (wc := (wUn cy (a 1) (a 2) (a 3) (a 4) (a 5) (a 6) (sU st))) (As := [.int x1]) (rest := []) (c_X7_has l D cy (a 1) (a 2) (a 3) (a 4) (a 5) (a 6) (sU st) x1 hOK.1) hCF gX3_isAt_X7_has_n54 (nw_X3_54 hG.2) k_0 k_1 k_2 rfl hd_X7_has ⟨rfl, rfl, Nat.le_of_ble_eq_true rfl, Nat.le_of_ble_eq_true rfl⟩ hG (hP.sub (ws' := (wUn cy (a 1) (a 2) (a 3) (a 4) (a 5) (a 6) (sU st))) [1, 2, 3, 4, 5, 6] u_St_Un) (ci := 5) rfl rfl g_Un_0 rfl hl.1 rfl (Nat.le_of_ble_eq_true rfl) dX3_isAt_5 ⟨Nat.le_refl _, Nat.le_refl _⟩ ?_
  refine lv_if_eq (tgt := 35) hx hb dX3_isAt_8 (by decide) (fun c_1 => ?_) (fun c_1 => ?_)
  · skip
    refine lv_iconst (v := (0 : Int32)) hx hb dX3_isAt_35 (by decide) ?_
    exact ro_zret hx hb hr hlocks rfl dX3_isAt_36 (by rw [m_X3_isAt, if_pos c_1])
  · skip
    refine lv_iload_n hx hb dX3_isAt_11 rfl (lv_at hl 2 rfl) ?_
    refine roSN (wc := ([] : va_W)) (As := [.int x2]) (rest := []) (c_X8_isHolder l D cy x2) hCF gX3_isAt_X8_isHolder_n58 (nw_X3_58 hG.2) k_3 k_4 rfl hd_X8_isHolder.2 ⟨rfl, rfl, Nat.le_of_ble_eq_true rfl, Nat.le_of_ble_eq_true rfl⟩ hG va_P_nil rfl hl.1 rfl (Nat.le_of_ble_eq_true rfl) dX3_isAt_12 ⟨Nat.le_refl _, Nat.le_refl _⟩ ?_
    refine lv_if_eq (tgt := 35) hx hb dX3_isAt_15 (by decide) (fun c_2 => ?_) (fun c_2 => ?_)
    · skip
      refine lv_iconst (v := (0 : Int32)) hx hb dX3_isAt_35 (by decide) ?_
      exact ro_zret hx hb hr hlocks rfl dX3_isAt_36 (by rw [m_X3_isAt, if_neg c_1, if_pos c_2])
    · skip
      refine lv_aload_n hx hb dX3_isAt_18 rfl (lv_at hl 0 rfl) ?_
      refine va_getN (D := D) (ci := 3) (v := .ref (a 1)) (C := RX5) (T := TX5) (N := 9) hx hb hts in_X5 hown hG.1 hP 0 g_St_0 rfl 0 (by decide) (va_Nw.use rfl (nw_X3_44 hG.2)) (fun _ h9 => h9) rfl dX3_isAt_19 ?_
      refine va_getN (D := D) (ci := 5) (v := .ref (a 4)) (C := RX7) (T := TX7) (N := 6) hx hb hts in_X7 hown hG.1 hP 1 g_St_1 rfl 2 (by decide) (va_Nw.use rfl (nw_X3_61 hG.2)) (fun _ h9 => h9) rfl dX3_isAt_22 ?_
      refine lv_iload_n hx hb dX3_isAt_25 rfl (lv_at hl 1 rfl) ?_
      refine va_iald hx hb hG.1 hP 4 0 (n := 16) (f := (uP (sU st))) g_St_4 rfl (bd_has hOK.1 c_1) dX3_isAt_26 ?_
      refine lv_iload_n hx hb dX3_isAt_27 rfl (lv_at hl 2 rfl) ?_
      refine lv_icmp_ne (tgt := 35) hx hb dX3_isAt_28 (by decide) (fun c_3 => ?_) (fun c_3 => ?_)
      · skip
        refine lv_iconst (v := (0 : Int32)) hx hb dX3_isAt_35 (by decide) ?_
        exact ro_zret hx hb hr hlocks rfl dX3_isAt_36 (by rw [m_X3_isAt, if_neg c_1, if_neg c_2, if_neg c_3])
      · skip
        refine lv_iconst (v := (1 : Int32)) hx hb dX3_isAt_31 (by decide) ?_
        refine lv_goto (tgt := 36) hx hb dX3_isAt_32 (by decide) ?_
        exact ro_zret hx hb hr hlocks rfl dX3_isAt_36 (by rw [m_X3_isAt, if_neg c_1, if_neg c_2, if_pos c_3])
theorem mx_ne (y : Int32) : ¬ (if (1 : Int32) < y then y else 1) = 0 := by
  split
  · rename_i h
    rw [i32_lt, i32_1] at h
    intro e
    rw [e, i32_0] at h
    omega
  · decide
def m_X3_hasMoney (st : StT) (x1 : Int32) (x2 : Int32) : Int32 := if (m_X8_isHolder x1) = (0 : Int32) then (0 : Int32) else if ((sA st) x1.toNatClampNeg) < x2 then (0 : Int32) else (1 : Int32)
theorem hd_X3_hasMoney : yX3_hasMoney.cls = RX3 ∧ yX3_hasMoney.cls ≠ "java/lang/invoke/MethodHandle" ∧ yX3_hasMoney.cls ≠ "java/lang/invoke/VarHandle" ∧ (parseMethodDescriptor yX3_hasMoney.desc).map (fun d => d.parameters.length) = some 3 := by decide +kernel
set_option maxHeartbeats 8000000 in
set_option maxRecDepth 20000 in
theorem c_X3_hasMoney (l : Launch) (D : va_G) (cy : Nat → ClassId) (a : Nat → Nat) (st : StT) (x1 : Int32) (x2 : Int32) (hOK : stOK st) : RO l D cy yX3_hasMoney wsX3_hasMoney ({ frames := 1, cells := 0, slots := 0, locals := 20 } : Room) (wSt cy a st) [.ref (a 0), .int x1, .int x2] (m_X3_hasMoney st x1 x2) := by
  refine RO.body (by decide) rfl (Nat.le_of_ble_eq_true rfl) ?_
  intro p e s m below meth c hx hb hml hr hts hown hlocks hP hG ls hl
  have hl : lv_has ls 3 [(0, .ref (a 0)), (1, .int x1), (2, .int x2)] := hl
  have hCF : CallFix p m c cX3_hasMoney 3 s ([.ref (a 0), .int x1, .int x2] : List Value).toArray wsX3_hasMoney RX3 := ⟨hx, hb, hml, hown, hts⟩
  have in_X5 : ∀ w ∈ u_ws RX5 TX5 9, w ∈ wsX3_hasMoney := fun _ h => List.mem_cons_of_mem _ (List.mem_append_right _ h)
  have k_0 := hts (Cond.initialized RX8) (List.mem_of_getElem? (i := 2) rfl)
  have k_1 := hts (Cond.static yX8_isHolder) (List.mem_of_getElem? (i := 1) rfl)
  refine lv_iload_n hx hb dX3_hasMoney_0 rfl (lv_at hl 1 rfl) ?_
  refine roSN (wc := ([] : va_W)) (As := [.int x1]) (rest := []) (c_X8_isHolder l D cy x1) hCF gX3_hasMoney_X8_isHolder_n58 (nw_X3_58 hG.2) k_0 k_1 rfl hd_X8_isHolder.2 ⟨rfl, rfl, Nat.le_of_ble_eq_true rfl, Nat.le_of_ble_eq_true rfl⟩ hG va_P_nil rfl hl.1 rfl (Nat.le_of_ble_eq_true rfl) dX3_hasMoney_1 ⟨Nat.le_refl _, Nat.le_refl _⟩ ?_
  refine lv_if_eq (tgt := 21) hx hb dX3_hasMoney_4 (by decide) (fun c_1 => ?_) (fun c_1 => ?_)
  · skip
    refine lv_iconst (v := (0 : Int32)) hx hb dX3_hasMoney_21 (by decide) ?_
    exact ro_zret hx hb hr hlocks rfl dX3_hasMoney_22 (by rw [m_X3_hasMoney, if_pos c_1])
  · skip
    refine lv_aload_n hx hb dX3_hasMoney_7 rfl (lv_at hl 0 rfl) ?_
    refine va_getN (D := D) (ci := 3) (v := .ref (a 13)) (C := RX5) (T := TX5) (N := 9) hx hb hts in_X5 hown hG.1 hP 0 g_St_0 rfl 3 (by decide) (va_Nw.use rfl (nw_X3_65 hG.2)) (fun _ h9 => h9) rfl dX3_hasMoney_8 ?_
    refine lv_iload_n hx hb dX3_hasMoney_11 rfl (lv_at hl 1 rfl) ?_
    refine va_iald hx hb hG.1 hP 13 0 (n := 5) (f := (sA st)) g_St_13 rfl (bd_isHolder c_1) dX3_hasMoney_12 ?_
    refine lv_iload_n hx hb dX3_hasMoney_13 rfl (lv_at hl 2 rfl) ?_
    refine lv_icmp_lt (tgt := 21) hx hb dX3_hasMoney_14 (by decide) (fun c_2 => ?_) (fun c_2 => ?_)
    · skip
      refine lv_iconst (v := (0 : Int32)) hx hb dX3_hasMoney_21 (by decide) ?_
      exact ro_zret hx hb hr hlocks rfl dX3_hasMoney_22 (by rw [m_X3_hasMoney, if_neg c_1, if_pos c_2])
    · skip
      refine lv_iconst (v := (1 : Int32)) hx hb dX3_hasMoney_17 (by decide) ?_
      refine lv_goto (tgt := 22) hx hb dX3_hasMoney_18 (by decide) ?_
      exact ro_zret hx hb hr hlocks rfl dX3_hasMoney_22 (by rw [m_X3_hasMoney, if_neg c_1, if_neg c_2])
def m_X3_succeeds (st : StT) (x1 : Int32) : Int32 × StT := if ((x1 / (100 : Int32)) - (((x1 / (100 : Int32)) / (1000 : Int32)) * (1000 : Int32))) = (0 : Int32) then if (x1 / (100000 : Int32)) = (1 : Int32) then if (m_X5_tryLend st ((x1 / (1000 : Int32)) - (((x1 / (1000 : Int32)) / (100 : Int32)) * (100 : Int32))) ((x1 / (100 : Int32)) - (((x1 / (100 : Int32)) / (10 : Int32)) * (10 : Int32))) (x1 - ((x1 / (100 : Int32)) * (100 : Int32)))).1 < (0 : Int32) then ((0 : Int32), (m_X5_tryLend st ((x1 / (1000 : Int32)) - (((x1 / (1000 : Int32)) / (100 : Int32)) * (100 : Int32))) ((x1 / (100 : Int32)) - (((x1 / (100 : Int32)) / (10 : Int32)) * (10 : Int32))) (x1 - ((x1 / (100 : Int32)) * (100 : Int32)))).2) else ((1 : Int32), (m_X5_tryLend st ((x1 / (1000 : Int32)) - (((x1 / (1000 : Int32)) / (100 : Int32)) * (100 : Int32))) ((x1 / (100 : Int32)) - (((x1 / (100 : Int32)) / (10 : Int32)) * (10 : Int32))) (x1 - ((x1 / (100 : Int32)) * (100 : Int32)))).2) else if (x1 / (100000 : Int32)) = (2 : Int32) then if (m_X5_tryBring st (x1 - ((x1 / (100 : Int32)) * (100 : Int32)))).1 < (0 : Int32) then ((0 : Int32), (m_X5_tryBring st (x1 - ((x1 / (100 : Int32)) * (100 : Int32)))).2) else ((1 : Int32), (m_X5_tryBring st (x1 - ((x1 / (100 : Int32)) * (100 : Int32)))).2) else if (x1 / (100000 : Int32)) = (3 : Int32) then if (x1 - ((x1 / (10 : Int32)) * (10 : Int32))) = (0 : Int32) then if (m_X5_tryExchange st ((x1 / (1000 : Int32)) - (((x1 / (1000 : Int32)) / (100 : Int32)) * (100 : Int32))) ((x1 / (10 : Int32)) - (((x1 / (10 : Int32)) / (100 : Int32)) * (100 : Int32)))).1 < (0 : Int32) then ((0 : Int32), (m_X5_tryExchange st ((x1 / (1000 : Int32)) - (((x1 / (1000 : Int32)) / (100 : Int32)) * (100 : Int32))) ((x1 / (10 : Int32)) - (((x1 / (10 : Int32)) / (100 : Int32)) * (100 : Int32)))).2) else ((1 : Int32), (m_X5_tryExchange st ((x1 / (1000 : Int32)) - (((x1 / (1000 : Int32)) / (100 : Int32)) * (100 : Int32))) ((x1 / (10 : Int32)) - (((x1 / (10 : Int32)) / (100 : Int32)) * (100 : Int32)))).2) else ((0 : Int32), st) else if (x1 / (100000 : Int32)) = (4 : Int32) then if (m_X5_tryTake st ((x1 / (1000 : Int32)) - (((x1 / (1000 : Int32)) / (100 : Int32)) * (100 : Int32))) ((x1 / (10 : Int32)) - (((x1 / (10 : Int32)) / (100 : Int32)) * (100 : Int32))) (x1 - ((x1 / (10 : Int32)) * (10 : Int32)))).1 < (0 : Int32) then ((0 : Int32), (m_X5_tryTake st ((x1 / (1000 : Int32)) - (((x1 / (1000 : Int32)) / (100 : Int32)) * (100 : Int32))) ((x1 / (10 : Int32)) - (((x1 / (10 : Int32)) / (100 : Int32)) * (100 : Int32))) (x1 - ((x1 / (10 : Int32)) * (10 : Int32)))).2) else ((1 : Int32), (m_X5_tryTake st ((x1 / (1000 : Int32)) - (((x1 / (1000 : Int32)) / (100 : Int32)) * (100 : Int32))) ((x1 / (10 : Int32)) - (((x1 / (10 : Int32)) / (100 : Int32)) * (100 : Int32))) (x1 - ((x1 / (10 : Int32)) * (10 : Int32)))).2) else if (x1 / (100000 : Int32)) = (5 : Int32) then if (m_X5_tryDays st (x1 - ((x1 / (100 : Int32)) * (100 : Int32)))).1 < (0 : Int32) then ((0 : Int32), (m_X5_tryDays st (x1 - ((x1 / (100 : Int32)) * (100 : Int32)))).2) else ((1 : Int32), (m_X5_tryDays st (x1 - ((x1 / (100 : Int32)) * (100 : Int32)))).2) else if (x1 / (100000 : Int32)) = (6 : Int32) then if (x1 - ((x1 / (100 : Int32)) * (100 : Int32))) = (0 : Int32) then if (m_X5_tryBuy st ((x1 / (1000 : Int32)) - (((x1 / (1000 : Int32)) / (100 : Int32)) * (100 : Int32))) ((x1 / (100 : Int32)) - (((x1 / (100 : Int32)) / (10 : Int32)) * (10 : Int32)))).1 < (0 : Int32) then ((0 : Int32), (m_X5_tryBuy st ((x1 / (1000 : Int32)) - (((x1 / (1000 : Int32)) / (100 : Int32)) * (100 : Int32))) ((x1 / (100 : Int32)) - (((x1 / (100 : Int32)) / (10 : Int32)) * (10 : Int32)))).2) else ((1 : Int32), (m_X5_tryBuy st ((x1 / (1000 : Int32)) - (((x1 / (1000 : Int32)) / (100 : Int32)) * (100 : Int32))) ((x1 / (100 : Int32)) - (((x1 / (100 : Int32)) / (10 : Int32)) * (10 : Int32)))).2) else ((0 : Int32), st) else if (x1 / (100000 : Int32)) = (7 : Int32) then if (x1 - ((x1 / (100 : Int32)) * (100 : Int32))) = (0 : Int32) then if (m_X3_isAt st ((x1 / (1000 : Int32)) - (((x1 / (1000 : Int32)) / (100 : Int32)) * (100 : Int32))) ((x1 / (100 : Int32)) - (((x1 / (100 : Int32)) / (10 : Int32)) * (10 : Int32)))) = (0 : Int32) then ((0 : Int32), st) else ((1 : Int32), st) else ((0 : Int32), st) else if (x1 / (100000 : Int32)) = (8 : Int32) then if (x1 - ((x1 / (10 : Int32)) * (10 : Int32))) = (0 : Int32) then if (m_X3_hasMoney st ((x1 / (10000 : Int32)) - (((x1 / (10000 : Int32)) / (10 : Int32)) * (10 : Int32))) (((x1 / (10 : Int32)) - (((x1 / (10 : Int32)) / (1000 : Int32)) * (1000 : Int32))) - (500 : Int32))) = (0 : Int32) then ((0 : Int32), st) else ((1 : Int32), st) else ((0 : Int32), st) else if (x1 / (100000 : Int32)) = (9 : Int32) then if (m_X7_usableOnes (sU st)) < (x1 - ((x1 / (100 : Int32)) * (100 : Int32))) then ((0 : Int32), st) else ((1 : Int32), st) else ((0 : Int32), st) else if (x1 / (100000 : Int32)) = (1 : Int32) then if (m_X5_tryLend st ((x1 / (1000 : Int32)) - (((x1 / (1000 : Int32)) / (100 : Int32)) * (100 : Int32))) ((x1 / (100 : Int32)) - (((x1 / (100 : Int32)) / (10 : Int32)) * (10 : Int32))) (x1 - ((x1 / (100 : Int32)) * (100 : Int32)))).1 < (0 : Int32) then ((0 : Int32), (m_X5_tryLend st ((x1 / (1000 : Int32)) - (((x1 / (1000 : Int32)) / (100 : Int32)) * (100 : Int32))) ((x1 / (100 : Int32)) - (((x1 / (100 : Int32)) / (10 : Int32)) * (10 : Int32))) (x1 - ((x1 / (100 : Int32)) * (100 : Int32)))).2) else ((1 : Int32), (m_X5_tryLend st ((x1 / (1000 : Int32)) - (((x1 / (1000 : Int32)) / (100 : Int32)) * (100 : Int32))) ((x1 / (100 : Int32)) - (((x1 / (100 : Int32)) / (10 : Int32)) * (10 : Int32))) (x1 - ((x1 / (100 : Int32)) * (100 : Int32)))).2) else if (x1 / (100000 : Int32)) = (2 : Int32) then ((0 : Int32), st) else if (x1 / (100000 : Int32)) = (3 : Int32) then if (x1 - ((x1 / (10 : Int32)) * (10 : Int32))) = (0 : Int32) then if (m_X5_tryExchange st ((x1 / (1000 : Int32)) - (((x1 / (1000 : Int32)) / (100 : Int32)) * (100 : Int32))) ((x1 / (10 : Int32)) - (((x1 / (10 : Int32)) / (100 : Int32)) * (100 : Int32)))).1 < (0 : Int32) then ((0 : Int32), (m_X5_tryExchange st ((x1 / (1000 : Int32)) - (((x1 / (1000 : Int32)) / (100 : Int32)) * (100 : Int32))) ((x1 / (10 : Int32)) - (((x1 / (10 : Int32)) / (100 : Int32)) * (100 : Int32)))).2) else ((1 : Int32), (m_X5_tryExchange st ((x1 / (1000 : Int32)) - (((x1 / (1000 : Int32)) / (100 : Int32)) * (100 : Int32))) ((x1 / (10 : Int32)) - (((x1 / (10 : Int32)) / (100 : Int32)) * (100 : Int32)))).2) else ((0 : Int32), st) else if (x1 / (100000 : Int32)) = (4 : Int32) then if (m_X5_tryTake st ((x1 / (1000 : Int32)) - (((x1 / (1000 : Int32)) / (100 : Int32)) * (100 : Int32))) ((x1 / (10 : Int32)) - (((x1 / (10 : Int32)) / (100 : Int32)) * (100 : Int32))) (x1 - ((x1 / (10 : Int32)) * (10 : Int32)))).1 < (0 : Int32) then ((0 : Int32), (m_X5_tryTake st ((x1 / (1000 : Int32)) - (((x1 / (1000 : Int32)) / (100 : Int32)) * (100 : Int32))) ((x1 / (10 : Int32)) - (((x1 / (10 : Int32)) / (100 : Int32)) * (100 : Int32))) (x1 - ((x1 / (10 : Int32)) * (10 : Int32)))).2) else ((1 : Int32), (m_X5_tryTake st ((x1 / (1000 : Int32)) - (((x1 / (1000 : Int32)) / (100 : Int32)) * (100 : Int32))) ((x1 / (10 : Int32)) - (((x1 / (10 : Int32)) / (100 : Int32)) * (100 : Int32))) (x1 - ((x1 / (10 : Int32)) * (10 : Int32)))).2) else if (x1 / (100000 : Int32)) = (5 : Int32) then ((0 : Int32), st) else if (x1 / (100000 : Int32)) = (6 : Int32) then if (x1 - ((x1 / (100 : Int32)) * (100 : Int32))) = (0 : Int32) then if (m_X5_tryBuy st ((x1 / (1000 : Int32)) - (((x1 / (1000 : Int32)) / (100 : Int32)) * (100 : Int32))) ((x1 / (100 : Int32)) - (((x1 / (100 : Int32)) / (10 : Int32)) * (10 : Int32)))).1 < (0 : Int32) then ((0 : Int32), (m_X5_tryBuy st ((x1 / (1000 : Int32)) - (((x1 / (1000 : Int32)) / (100 : Int32)) * (100 : Int32))) ((x1 / (100 : Int32)) - (((x1 / (100 : Int32)) / (10 : Int32)) * (10 : Int32)))).2) else ((1 : Int32), (m_X5_tryBuy st ((x1 / (1000 : Int32)) - (((x1 / (1000 : Int32)) / (100 : Int32)) * (100 : Int32))) ((x1 / (100 : Int32)) - (((x1 / (100 : Int32)) / (10 : Int32)) * (10 : Int32)))).2) else ((0 : Int32), st) else if (x1 / (100000 : Int32)) = (7 : Int32) then if (x1 - ((x1 / (100 : Int32)) * (100 : Int32))) = (0 : Int32) then if (m_X3_isAt st ((x1 / (1000 : Int32)) - (((x1 / (1000 : Int32)) / (100 : Int32)) * (100 : Int32))) ((x1 / (100 : Int32)) - (((x1 / (100 : Int32)) / (10 : Int32)) * (10 : Int32)))) = (0 : Int32) then ((0 : Int32), st) else ((1 : Int32), st) else ((0 : Int32), st) else if (x1 / (100000 : Int32)) = (8 : Int32) then if (x1 - ((x1 / (10 : Int32)) * (10 : Int32))) = (0 : Int32) then if (m_X3_hasMoney st ((x1 / (10000 : Int32)) - (((x1 / (10000 : Int32)) / (10 : Int32)) * (10 : Int32))) (((x1 / (10 : Int32)) - (((x1 / (10 : Int32)) / (1000 : Int32)) * (1000 : Int32))) - (500 : Int32))) = (0 : Int32) then ((0 : Int32), st) else ((1 : Int32), st) else ((0 : Int32), st) else if (x1 / (100000 : Int32)) = (9 : Int32) then ((0 : Int32), st) else ((0 : Int32), st)
theorem hd_X3_succeeds : yX3_succeeds.cls = RX3 ∧ yX3_succeeds.cls ≠ "java/lang/invoke/MethodHandle" ∧ yX3_succeeds.cls ≠ "java/lang/invoke/VarHandle" ∧ (parseMethodDescriptor yX3_succeeds.desc).map (fun d => d.parameters.length) = some 2 := by decide +kernel
set_option maxHeartbeats 8000000 in
set_option maxRecDepth 20000 in
theorem c_X3_succeeds (l : Launch) (D : va_G) (cy : Nat → ClassId) (a : Nat → Nat) (st : StT) (x1 : Int32) (hOK : stOK st) : MU l D cy yX3_succeeds wsX3_succeeds ({ frames := 4, cells := 0, slots := 0, locals := 95 } : Room) (wSt cy a st) (wSt cy a (m_X3_succeeds st x1).2) [.ref (a 0), .int x1] (m_X3_succeeds st x1).1 := by
  refine MU.body (by decide) rfl (Nat.le_of_ble_eq_true rfl) ?_
  intro p e s m below meth c hx hb hml hr hts hown hlocks hP hG ls hl A hD hA hS
  have hl : lv_has ls 9 [(0, .ref (a 0)), (1, .int x1)] := hl
  have hCF : CallFix p m c cX3_succeeds 9 s ([.ref (a 0), .int x1] : List Value).toArray wsX3_succeeds RX3 := ⟨hx, hb, hml, hown, hts⟩
  have in_X5 : ∀ w ∈ u_ws RX5 TX5 9, w ∈ wsX3_succeeds := fun _ h => List.mem_cons_of_mem _ (List.mem_append_left _ (List.mem_append_left _ (List.mem_append_right _ h)))
  have k_0 := hts (Cond.constant RX3 13 (100000)) (List.mem_of_getElem? (i := 1) rfl)
  have k_1 := hts (Cond.initialized RX5) (List.mem_of_getElem? (i := 3) rfl)
  have k_2 := hts (Cond.instanceMethod yX5_tryLend) (List.mem_of_getElem? (i := 2) rfl)
  have k_3 := hts (Cond.selects RX5 yX5_tryLend yX5_tryLend) (List.mem_of_getElem? (i := 4) rfl)
  have k_4 := hts (Cond.instanceMethod yX5_tryExchange) (List.mem_of_getElem? (i := 50) rfl)
  have k_5 := hts (Cond.selects RX5 yX5_tryExchange yX5_tryExchange) (List.mem_of_getElem? (i := 51) rfl)
  have k_6 := hts (Cond.instanceMethod yX5_tryTake) (List.mem_of_getElem? (i := 80) rfl)
  have k_7 := hts (Cond.selects RX5 yX5_tryTake yX5_tryTake) (List.mem_of_getElem? (i := 81) rfl)
  have k_8 := hts (Cond.instanceMethod yX5_tryBuy) (List.mem_of_getElem? (i := 110) rfl)
  have k_9 := hts (Cond.selects RX5 yX5_tryBuy yX5_tryBuy) (List.mem_of_getElem? (i := 111) rfl)
  have k_10 := hts (Cond.instanceMethod yX5_tryBring) (List.mem_of_getElem? (i := 24) rfl)
  have k_11 := hts (Cond.selects RX5 yX5_tryBring yX5_tryBring) (List.mem_of_getElem? (i := 25) rfl)
  have k_12 := hts (Cond.instanceMethod yX5_tryDays) (List.mem_of_getElem? (i := 107) rfl)
  have k_13 := hts (Cond.selects RX5 yX5_tryDays yX5_tryDays) (List.mem_of_getElem? (i := 108) rfl)
  have k_14 := hts (Cond.initialized RX7) (List.mem_of_getElem? (i := 9) rfl)
  have k_15 := hts (Cond.instanceMethod yX7_usableOnes) (List.mem_of_getElem? (i := 120) rfl)
  have k_16 := hts (Cond.selects RX7 yX7_usableOnes yX7_usableOnes) (List.mem_of_getElem? (i := 121) rfl)
  have hP : va_P D vwCl (wSt cy a st) s.heap := hP
  refine lv_iload_n hx hb dX3_succeeds_0 rfl (lv_at hl 1 rfl) ?_
  refine lv_sipush (v := (10000 : Int32)) hx hb dX3_succeeds_1 (by decide) ?_
  refine lv_idiv hx hb dX3_succeeds_4 (by decide) ?_
  refine lv_bipush (v := (10 : Int32)) hx hb dX3_succeeds_5 (by decide) ?_
  refine lv_irem hx hb dX3_succeeds_7 (by decide) ?_
  refine lv_istore_n (lv' := [(2, .int ((x1 / (10000 : Int32)) - (((x1 / (10000 : Int32)) / (10 : Int32)) * (10 : Int32)))), (0, .ref (a 0)), (1, .int x1)]) hx hb dX3_succeeds_8 rfl hl (by decide) rfl (fun ls hl => ?_)
  refine lv_iload_n hx hb dX3_succeeds_9 rfl (lv_at hl 2 rfl) ?_
  refine lv_sipush (v := (1000 : Int32)) hx hb dX3_succeeds_10 (by decide) ?_
  refine lv_idiv hx hb dX3_succeeds_13 (by decide) ?_
  refine lv_bipush (v := (100 : Int32)) hx hb dX3_succeeds_14 (by decide) ?_
  refine lv_irem hx hb dX3_succeeds_16 (by decide) ?_
  refine lv_istore_n (lv' := [(3, .int ((x1 / (1000 : Int32)) - (((x1 / (1000 : Int32)) / (100 : Int32)) * (100 : Int32)))), (2, .int ((x1 / (10000 : Int32)) - (((x1 / (10000 : Int32)) / (10 : Int32)) * (10 : Int32)))), (0, .ref (a 0)), (1, .int x1)]) hx hb dX3_succeeds_17 rfl hl (by decide) rfl (fun ls hl => ?_)
  refine lv_iload_n hx hb dX3_succeeds_18 rfl (lv_at hl 3 rfl) ?_
  refine lv_bipush (v := (100 : Int32)) hx hb dX3_succeeds_19 (by decide) ?_
  refine lv_idiv hx hb dX3_succeeds_21 (by decide) ?_
  refine lv_bipush (v := (10 : Int32)) hx hb dX3_succeeds_22 (by decide) ?_
  refine lv_irem hx hb dX3_succeeds_24 (by decide) ?_
  refine lv_istore (lv' := [(4, .int ((x1 / (100 : Int32)) - (((x1 / (100 : Int32)) / (10 : Int32)) * (10 : Int32)))), (3, .int ((x1 / (1000 : Int32)) - (((x1 / (1000 : Int32)) / (100 : Int32)) * (100 : Int32)))), (2, .int ((x1 / (10000 : Int32)) - (((x1 / (10000 : Int32)) / (10 : Int32)) * (10 : Int32)))), (0, .ref (a 0)), (1, .int x1)]) hx hb dX3_succeeds_25 hl (by decide) rfl (fun ls hl => ?_)
  refine lv_iload_n hx hb dX3_succeeds_27 rfl (lv_at hl 4 rfl) ?_
  refine lv_bipush (v := (10 : Int32)) hx hb dX3_succeeds_28 (by decide) ?_
  refine lv_idiv hx hb dX3_succeeds_30 (by decide) ?_
  refine lv_bipush (v := (100 : Int32)) hx hb dX3_succeeds_31 (by decide) ?_
  refine lv_irem hx hb dX3_succeeds_33 (by decide) ?_
  refine lv_istore (lv' := [(5, .int ((x1 / (10 : Int32)) - (((x1 / (10 : Int32)) / (100 : Int32)) * (100 : Int32)))), (4, .int ((x1 / (100 : Int32)) - (((x1 / (100 : Int32)) / (10 : Int32)) * (10 : Int32)))), (3, .int ((x1 / (1000 : Int32)) - (((x1 / (1000 : Int32)) / (100 : Int32)) * (100 : Int32)))), (2, .int ((x1 / (10000 : Int32)) - (((x1 / (10000 : Int32)) / (10 : Int32)) * (10 : Int32)))), (0, .ref (a 0)), (1, .int x1)]) hx hb dX3_succeeds_34 hl (by decide) rfl (fun ls hl => ?_)
  refine lv_iload_n hx hb dX3_succeeds_36 rfl (lv_at hl 5 rfl) ?_
  refine lv_bipush (v := (100 : Int32)) hx hb dX3_succeeds_37 (by decide) ?_
  refine lv_irem hx hb dX3_succeeds_39 (by decide) ?_
  refine lv_istore (lv' := [(6, .int (x1 - ((x1 / (100 : Int32)) * (100 : Int32)))), (5, .int ((x1 / (10 : Int32)) - (((x1 / (10 : Int32)) / (100 : Int32)) * (100 : Int32)))), (4, .int ((x1 / (100 : Int32)) - (((x1 / (100 : Int32)) / (10 : Int32)) * (10 : Int32)))), (3, .int ((x1 / (1000 : Int32)) - (((x1 / (1000 : Int32)) / (100 : Int32)) * (100 : Int32)))), (2, .int ((x1 / (10000 : Int32)) - (((x1 / (10000 : Int32)) / (10 : Int32)) * (10 : Int32)))), (0, .ref (a 0)), (1, .int x1)]) hx hb dX3_succeeds_40 hl (by decide) rfl (fun ls hl => ?_)
  refine lv_iload_n hx hb dX3_succeeds_42 rfl (lv_at hl 6 rfl) ?_
  refine lv_bipush (v := (10 : Int32)) hx hb dX3_succeeds_43 (by decide) ?_
  refine lv_irem hx hb dX3_succeeds_45 (by decide) ?_
  refine lv_istore (lv' := [(7, .int (x1 - ((x1 / (10 : Int32)) * (10 : Int32)))), (6, .int (x1 - ((x1 / (100 : Int32)) * (100 : Int32)))), (5, .int ((x1 / (10 : Int32)) - (((x1 / (10 : Int32)) / (100 : Int32)) * (100 : Int32)))), (4, .int ((x1 / (100 : Int32)) - (((x1 / (100 : Int32)) / (10 : Int32)) * (10 : Int32)))), (3, .int ((x1 / (1000 : Int32)) - (((x1 / (1000 : Int32)) / (100 : Int32)) * (100 : Int32)))), (2, .int ((x1 / (10000 : Int32)) - (((x1 / (10000 : Int32)) / (10 : Int32)) * (10 : Int32)))), (0, .ref (a 0)), (1, .int x1)]) hx hb dX3_succeeds_46 hl (by decide) rfl (fun ls hl => ?_)
  refine lv_iload_n hx hb dX3_succeeds_48 rfl (lv_at hl 7 rfl) ?_
  refine lv_bipush (v := (100 : Int32)) hx hb dX3_succeeds_49 (by decide) ?_
  refine lv_idiv hx hb dX3_succeeds_51 (by decide) ?_
  refine lv_sipush (v := (1000 : Int32)) hx hb dX3_succeeds_52 (by decide) ?_
  refine lv_irem hx hb dX3_succeeds_55 (by decide) ?_
  refine lv_if_ne (tgt := 63) hx hb dX3_succeeds_56 (by decide) (fun c_1 => ?_) (fun c_1 => ?_)
  · skip
    refine lv_iconst (v := (0 : Int32)) hx hb dX3_succeeds_63 (by decide) ?_
    refine lv_istore (lv' := [(8, .int (0 : Int32)), (7, .int (x1 - ((x1 / (10 : Int32)) * (10 : Int32)))), (6, .int (x1 - ((x1 / (100 : Int32)) * (100 : Int32)))), (5, .int ((x1 / (10 : Int32)) - (((x1 / (10 : Int32)) / (100 : Int32)) * (100 : Int32)))), (4, .int ((x1 / (100 : Int32)) - (((x1 / (100 : Int32)) / (10 : Int32)) * (10 : Int32)))), (3, .int ((x1 / (1000 : Int32)) - (((x1 / (1000 : Int32)) / (100 : Int32)) * (100 : Int32)))), (2, .int ((x1 / (10000 : Int32)) - (((x1 / (10000 : Int32)) / (10 : Int32)) * (10 : Int32)))), (0, .ref (a 0)), (1, .int x1)]) hx hb dX3_succeeds_64 hl (by decide) rfl (fun ls hl => ?_)
    refine lv_iload_n hx hb dX3_succeeds_66 rfl (lv_at hl 8 rfl) ?_
    refine lv_ldc (v := (100000 : Int32)) hx hb hown k_0 dX3_succeeds_67 ?_
    refine lv_idiv hx hb dX3_succeeds_69 (by decide) ?_
    by_cases c_2 : (x1 / (100000 : Int32)) = (1 : Int32)
    · refine lv_tableIn (tgt := 120) hx hb dX3_succeeds_70 (by rw [c_2]; decide) (by rw [c_2]; decide) (by rw [c_2]; rfl) (by decide) ?_
      refine lv_aload_n hx hb dX3_succeeds_120 rfl (lv_at hl 7 rfl) ?_
      refine lv_iload_n hx hb dX3_succeeds_121 rfl (lv_at hl 5 rfl) ?_
      refine lv_iload hx hb dX3_succeeds_122 (lv_at hl 4 rfl) ?_
      refine lv_iload hx hb dX3_succeeds_124 (lv_at hl 2 rfl) ?_
      refine muVN (A0 := A) (wc := (wSt cy a st)) (As := [.int ((x1 / (1000 : Int32)) - (((x1 / (1000 : Int32)) / (100 : Int32)) * (100 : Int32))), .int ((x1 / (100 : Int32)) - (((x1 / (100 : Int32)) / (10 : Int32)) * (10 : Int32))), .int (x1 - ((x1 / (100 : Int32)) * (100 : Int32)))]) (rest := []) (c_X5_tryLend l D cy a st ((x1 / (1000 : Int32)) - (((x1 / (1000 : Int32)) / (100 : Int32)) * (100 : Int32))) ((x1 / (100 : Int32)) - (((x1 / (100 : Int32)) / (10 : Int32)) * (10 : Int32))) (x1 - ((x1 / (100 : Int32)) * (100 : Int32))) hOK) hCF gX3_succeeds_X5_tryLend_n14 (nw_X3_14 hG.2) k_1 k_2 k_3 rfl hd_X5_tryLend ⟨rfl, rfl, Nat.le_of_ble_eq_true rfl, Nat.le_of_ble_eq_true rfl⟩ hG hP hD hS hA [0, 1, 2, 3, 4, 5, 6, 7, 8, 9, 10, 11, 12, 13, 14] rfl c_St_St h_St (ci := 3) rfl rfl g_St_0 rfl hl.1 rfl (Nat.le_of_ble_eq_true rfl) dX3_succeeds_126 ⟨Nat.le_refl _, Nat.le_refl _⟩ (fun H locs hP hD hS => ?_)
      have hP : va_P D vwCl (wSt cy a (m_X5_tryLend st ((x1 / (1000 : Int32)) - (((x1 / (1000 : Int32)) / (100 : Int32)) * (100 : Int32))) ((x1 / (100 : Int32)) - (((x1 / (100 : Int32)) / (10 : Int32)) * (10 : Int32))) (x1 - ((x1 / (100 : Int32)) * (100 : Int32)))).2) H := va_P_eq hP r_St_St
      have hD : va_D A (wSt cy a (m_X5_tryLend st ((x1 / (1000 : Int32)) - (((x1 / (1000 : Int32)) / (100 : Int32)) * (100 : Int32))) ((x1 / (100 : Int32)) - (((x1 / (100 : Int32)) / (10 : Int32)) * (10 : Int32))) (x1 - ((x1 / (100 : Int32)) * (100 : Int32)))).2) := va_D_eq hD r_St_St
      refine lv_if_lt (tgt := 136) hx hb dX3_succeeds_129 (by decide) (fun c_3 => ?_) (fun c_3 => ?_)
      · skip
        refine lv_iconst (v := (0 : Int32)) hx hb dX3_succeeds_136 (by decide) ?_
        exact mu_zret hx hb hr hlocks rfl hP hS dX3_succeeds_137 (by rw [m_X3_succeeds, if_neg c_1, if_pos c_2, if_pos c_3]) (by rw [m_X3_succeeds, if_neg c_1, if_pos c_2, if_pos c_3])
      · skip
        refine lv_iconst (v := (1 : Int32)) hx hb dX3_succeeds_132 (by decide) ?_
        refine lv_goto (tgt := 137) hx hb dX3_succeeds_133 (by decide) ?_
        exact mu_zret hx hb hr hlocks rfl hP hS dX3_succeeds_137 (by rw [m_X3_succeeds, if_neg c_1, if_pos c_2, if_neg c_3]) (by rw [m_X3_succeeds, if_neg c_1, if_pos c_2, if_neg c_3])
    by_cases c_4 : (x1 / (100000 : Int32)) = (2 : Int32)
    · refine lv_tableIn (tgt := 138) hx hb dX3_succeeds_70 (by rw [c_4]; decide) (by rw [c_4]; decide) (by rw [c_4]; rfl) (by decide) ?_
      refine lv_iload hx hb dX3_succeeds_138 (lv_at hl 0 rfl) ?_
      refine lv_if_eq (tgt := 156) hx hb dX3_succeeds_140 (by decide) (fun _ => ?_) (fun c => absurd (by decide) c)
      refine lv_iconst (v := (0 : Int32)) hx hb dX3_succeeds_156 (by decide) ?_
      exact mu_zret hx hb hr hlocks rfl hP hS dX3_succeeds_157 (by rw [m_X3_succeeds, if_neg c_1, if_neg c_2, if_pos c_4]) (by rw [m_X3_succeeds, if_neg c_1, if_neg c_2, if_pos c_4])
    by_cases c_5 : (x1 / (100000 : Int32)) = (3 : Int32)
    · refine lv_tableIn (tgt := 158) hx hb dX3_succeeds_70 (by rw [c_5]; decide) (by rw [c_5]; decide) (by rw [c_5]; rfl) (by decide) ?_
      refine lv_iload hx hb dX3_succeeds_158 (lv_at hl 1 rfl) ?_
      refine lv_if_ne (tgt := 177) hx hb dX3_succeeds_160 (by decide) (fun c_6 => ?_) (fun c_6 => ?_)
      · skip
        refine lv_iconst (v := (0 : Int32)) hx hb dX3_succeeds_177 (by decide) ?_
        exact mu_zret hx hb hr hlocks rfl hP hS dX3_succeeds_178 (by rw [m_X3_succeeds, if_neg c_1, if_neg c_2, if_neg c_4, if_pos c_5, if_neg c_6]) (by rw [m_X3_succeeds, if_neg c_1, if_neg c_2, if_neg c_4, if_pos c_5, if_neg c_6])
      · skip
        refine lv_aload_n hx hb dX3_succeeds_163 rfl (lv_at hl 7 rfl) ?_
        refine lv_iload_n hx hb dX3_succeeds_164 rfl (lv_at hl 5 rfl) ?_
        refine lv_iload hx hb dX3_succeeds_165 (lv_at hl 3 rfl) ?_
        refine muVN (A0 := A) (wc := (wSt cy a st)) (As := [.int ((x1 / (1000 : Int32)) - (((x1 / (1000 : Int32)) / (100 : Int32)) * (100 : Int32))), .int ((x1 / (10 : Int32)) - (((x1 / (10 : Int32)) / (100 : Int32)) * (100 : Int32)))]) (rest := []) (c_X5_tryExchange l D cy a st ((x1 / (1000 : Int32)) - (((x1 / (1000 : Int32)) / (100 : Int32)) * (100 : Int32))) ((x1 / (10 : Int32)) - (((x1 / (10 : Int32)) / (100 : Int32)) * (100 : Int32))) hOK) hCF gX3_succeeds_X5_tryExchange_n24 (nw_X3_24 hG.2) k_1 k_4 k_5 rfl hd_X5_tryExchange ⟨rfl, rfl, Nat.le_of_ble_eq_true rfl, Nat.le_of_ble_eq_true rfl⟩ hG hP hD hS hA [0, 1, 2, 3, 4, 5, 6, 7, 8, 9, 10, 11, 12, 13, 14] rfl c_St_St h_St (ci := 3) rfl rfl g_St_0 rfl hl.1 rfl (Nat.le_of_ble_eq_true rfl) dX3_succeeds_167 ⟨Nat.le_refl _, Nat.le_refl _⟩ (fun H locs hP hD hS => ?_)
        have hP : va_P D vwCl (wSt cy a (m_X5_tryExchange st ((x1 / (1000 : Int32)) - (((x1 / (1000 : Int32)) / (100 : Int32)) * (100 : Int32))) ((x1 / (10 : Int32)) - (((x1 / (10 : Int32)) / (100 : Int32)) * (100 : Int32)))).2) H := va_P_eq hP r_St_St
        have hD : va_D A (wSt cy a (m_X5_tryExchange st ((x1 / (1000 : Int32)) - (((x1 / (1000 : Int32)) / (100 : Int32)) * (100 : Int32))) ((x1 / (10 : Int32)) - (((x1 / (10 : Int32)) / (100 : Int32)) * (100 : Int32)))).2) := va_D_eq hD r_St_St
        refine lv_if_lt (tgt := 177) hx hb dX3_succeeds_170 (by decide) (fun c_7 => ?_) (fun c_7 => ?_)
        · skip
          refine lv_iconst (v := (0 : Int32)) hx hb dX3_succeeds_177 (by decide) ?_
          exact mu_zret hx hb hr hlocks rfl hP hS dX3_succeeds_178 (by rw [m_X3_succeeds, if_neg c_1, if_neg c_2, if_neg c_4, if_pos c_5, if_pos c_6, if_pos c_7]) (by rw [m_X3_succeeds, if_neg c_1, if_neg c_2, if_neg c_4, if_pos c_5, if_pos c_6, if_pos c_7])
        · skip
          refine lv_iconst (v := (1 : Int32)) hx hb dX3_succeeds_173 (by decide) ?_
          refine lv_goto (tgt := 178) hx hb dX3_succeeds_174 (by decide) ?_
          exact mu_zret hx hb hr hlocks rfl hP hS dX3_succeeds_178 (by rw [m_X3_succeeds, if_neg c_1, if_neg c_2, if_neg c_4, if_pos c_5, if_pos c_6, if_neg c_7]) (by rw [m_X3_succeeds, if_neg c_1, if_neg c_2, if_neg c_4, if_pos c_5, if_pos c_6, if_neg c_7])
    by_cases c_8 : (x1 / (100000 : Int32)) = (4 : Int32)
    · refine lv_tableIn (tgt := 179) hx hb dX3_succeeds_70 (by rw [c_8]; decide) (by rw [c_8]; decide) (by rw [c_8]; rfl) (by decide) ?_
      refine lv_aload_n hx hb dX3_succeeds_179 rfl (lv_at hl 7 rfl) ?_
      refine lv_iload_n hx hb dX3_succeeds_180 rfl (lv_at hl 5 rfl) ?_
      refine lv_iload hx hb dX3_succeeds_181 (lv_at hl 3 rfl) ?_
      refine lv_iload hx hb dX3_succeeds_183 (lv_at hl 1 rfl) ?_
      refine muVN (A0 := A) (wc := (wSt cy a st)) (As := [.int ((x1 / (1000 : Int32)) - (((x1 / (1000 : Int32)) / (100 : Int32)) * (100 : Int32))), .int ((x1 / (10 : Int32)) - (((x1 / (10 : Int32)) / (100 : Int32)) * (100 : Int32))), .int (x1 - ((x1 / (10 : Int32)) * (10 : Int32)))]) (rest := []) (c_X5_tryTake l D cy a st ((x1 / (1000 : Int32)) - (((x1 / (1000 : Int32)) / (100 : Int32)) * (100 : Int32))) ((x1 / (10 : Int32)) - (((x1 / (10 : Int32)) / (100 : Int32)) * (100 : Int32))) (x1 - ((x1 / (10 : Int32)) * (10 : Int32))) hOK) hCF gX3_succeeds_X5_tryTake_n28 (nw_X3_28 hG.2) k_1 k_6 k_7 rfl hd_X5_tryTake ⟨rfl, rfl, Nat.le_of_ble_eq_true rfl, Nat.le_of_ble_eq_true rfl⟩ hG hP hD hS hA [0, 1, 2, 3, 4, 5, 6, 7, 8, 9, 10, 11, 12, 13, 14] rfl c_St_St h_St (ci := 3) rfl rfl g_St_0 rfl hl.1 rfl (Nat.le_of_ble_eq_true rfl) dX3_succeeds_185 ⟨Nat.le_refl _, Nat.le_refl _⟩ (fun H locs hP hD hS => ?_)
      have hP : va_P D vwCl (wSt cy a (m_X5_tryTake st ((x1 / (1000 : Int32)) - (((x1 / (1000 : Int32)) / (100 : Int32)) * (100 : Int32))) ((x1 / (10 : Int32)) - (((x1 / (10 : Int32)) / (100 : Int32)) * (100 : Int32))) (x1 - ((x1 / (10 : Int32)) * (10 : Int32)))).2) H := va_P_eq hP r_St_St
      have hD : va_D A (wSt cy a (m_X5_tryTake st ((x1 / (1000 : Int32)) - (((x1 / (1000 : Int32)) / (100 : Int32)) * (100 : Int32))) ((x1 / (10 : Int32)) - (((x1 / (10 : Int32)) / (100 : Int32)) * (100 : Int32))) (x1 - ((x1 / (10 : Int32)) * (10 : Int32)))).2) := va_D_eq hD r_St_St
      refine lv_if_lt (tgt := 195) hx hb dX3_succeeds_188 (by decide) (fun c_9 => ?_) (fun c_9 => ?_)
      · skip
        refine lv_iconst (v := (0 : Int32)) hx hb dX3_succeeds_195 (by decide) ?_
        exact mu_zret hx hb hr hlocks rfl hP hS dX3_succeeds_196 (by rw [m_X3_succeeds, if_neg c_1, if_neg c_2, if_neg c_4, if_neg c_5, if_pos c_8, if_pos c_9]) (by rw [m_X3_succeeds, if_neg c_1, if_neg c_2, if_neg c_4, if_neg c_5, if_pos c_8, if_pos c_9])
      · skip
        refine lv_iconst (v := (1 : Int32)) hx hb dX3_succeeds_191 (by decide) ?_
        refine lv_goto (tgt := 196) hx hb dX3_succeeds_192 (by decide) ?_
        exact mu_zret hx hb hr hlocks rfl hP hS dX3_succeeds_196 (by rw [m_X3_succeeds, if_neg c_1, if_neg c_2, if_neg c_4, if_neg c_5, if_pos c_8, if_neg c_9]) (by rw [m_X3_succeeds, if_neg c_1, if_neg c_2, if_neg c_4, if_neg c_5, if_pos c_8, if_neg c_9])
    by_cases c_10 : (x1 / (100000 : Int32)) = (5 : Int32)
    · refine lv_tableIn (tgt := 197) hx hb dX3_succeeds_70 (by rw [c_10]; decide) (by rw [c_10]; decide) (by rw [c_10]; rfl) (by decide) ?_
      refine lv_iload hx hb dX3_succeeds_197 (lv_at hl 0 rfl) ?_
      refine lv_if_eq (tgt := 215) hx hb dX3_succeeds_199 (by decide) (fun _ => ?_) (fun c => absurd (by decide) c)
      refine lv_iconst (v := (0 : Int32)) hx hb dX3_succeeds_215 (by decide) ?_
      exact mu_zret hx hb hr hlocks rfl hP hS dX3_succeeds_216 (by rw [m_X3_succeeds, if_neg c_1, if_neg c_2, if_neg c_4, if_neg c_5, if_neg c_8, if_pos c_10]) (by rw [m_X3_succeeds, if_neg c_1, if_neg c_2, if_neg c_4, if_neg c_5, if_neg c_8, if_pos c_10])
    by_cases c_11 : (x1 / (100000 : Int32)) = (6 : Int32)
    · refine lv_tableIn (tgt := 217) hx hb dX3_succeeds_70 (by rw [c_11]; decide) (by rw [c_11]; decide) (by rw [c_11]; rfl) (by decide) ?_
      refine lv_iload hx hb dX3_succeeds_217 (lv_at hl 2 rfl) ?_
      refine lv_if_ne (tgt := 236) hx hb dX3_succeeds_219 (by decide) (fun c_12 => ?_) (fun c_12 => ?_)
      · skip
        refine lv_iconst (v := (0 : Int32)) hx hb dX3_succeeds_236 (by decide) ?_
        exact mu_zret hx hb hr hlocks rfl hP hS dX3_succeeds_237 (by rw [m_X3_succeeds, if_neg c_1, if_neg c_2, if_neg c_4, if_neg c_5, if_neg c_8, if_neg c_10, if_pos c_11, if_neg c_12]) (by rw [m_X3_succeeds, if_neg c_1, if_neg c_2, if_neg c_4, if_neg c_5, if_neg c_8, if_neg c_10, if_pos c_11, if_neg c_12])
      · skip
        refine lv_aload_n hx hb dX3_succeeds_222 rfl (lv_at hl 7 rfl) ?_
        refine lv_iload_n hx hb dX3_succeeds_223 rfl (lv_at hl 5 rfl) ?_
        refine lv_iload hx hb dX3_succeeds_224 (lv_at hl 4 rfl) ?_
        refine muVN (A0 := A) (wc := (wSt cy a st)) (As := [.int ((x1 / (1000 : Int32)) - (((x1 / (1000 : Int32)) / (100 : Int32)) * (100 : Int32))), .int ((x1 / (100 : Int32)) - (((x1 / (100 : Int32)) / (10 : Int32)) * (10 : Int32)))]) (rest := []) (c_X5_tryBuy l D cy a st ((x1 / (1000 : Int32)) - (((x1 / (1000 : Int32)) / (100 : Int32)) * (100 : Int32))) ((x1 / (100 : Int32)) - (((x1 / (100 : Int32)) / (10 : Int32)) * (10 : Int32))) hOK) hCF gX3_succeeds_X5_tryBuy_n34 (nw_X3_34 hG.2) k_1 k_8 k_9 rfl hd_X5_tryBuy ⟨rfl, rfl, Nat.le_of_ble_eq_true rfl, Nat.le_of_ble_eq_true rfl⟩ hG hP hD hS hA [0, 1, 2, 3, 4, 5, 6, 7, 8, 9, 10, 11, 12, 13, 14] rfl c_St_St h_St (ci := 3) rfl rfl g_St_0 rfl hl.1 rfl (Nat.le_of_ble_eq_true rfl) dX3_succeeds_226 ⟨Nat.le_refl _, Nat.le_refl _⟩ (fun H locs hP hD hS => ?_)
        have hP : va_P D vwCl (wSt cy a (m_X5_tryBuy st ((x1 / (1000 : Int32)) - (((x1 / (1000 : Int32)) / (100 : Int32)) * (100 : Int32))) ((x1 / (100 : Int32)) - (((x1 / (100 : Int32)) / (10 : Int32)) * (10 : Int32)))).2) H := va_P_eq hP r_St_St
        have hD : va_D A (wSt cy a (m_X5_tryBuy st ((x1 / (1000 : Int32)) - (((x1 / (1000 : Int32)) / (100 : Int32)) * (100 : Int32))) ((x1 / (100 : Int32)) - (((x1 / (100 : Int32)) / (10 : Int32)) * (10 : Int32)))).2) := va_D_eq hD r_St_St
        refine lv_if_lt (tgt := 236) hx hb dX3_succeeds_229 (by decide) (fun c_13 => ?_) (fun c_13 => ?_)
        · skip
          refine lv_iconst (v := (0 : Int32)) hx hb dX3_succeeds_236 (by decide) ?_
          exact mu_zret hx hb hr hlocks rfl hP hS dX3_succeeds_237 (by rw [m_X3_succeeds, if_neg c_1, if_neg c_2, if_neg c_4, if_neg c_5, if_neg c_8, if_neg c_10, if_pos c_11, if_pos c_12, if_pos c_13]) (by rw [m_X3_succeeds, if_neg c_1, if_neg c_2, if_neg c_4, if_neg c_5, if_neg c_8, if_neg c_10, if_pos c_11, if_pos c_12, if_pos c_13])
        · skip
          refine lv_iconst (v := (1 : Int32)) hx hb dX3_succeeds_232 (by decide) ?_
          refine lv_goto (tgt := 237) hx hb dX3_succeeds_233 (by decide) ?_
          exact mu_zret hx hb hr hlocks rfl hP hS dX3_succeeds_237 (by rw [m_X3_succeeds, if_neg c_1, if_neg c_2, if_neg c_4, if_neg c_5, if_neg c_8, if_neg c_10, if_pos c_11, if_pos c_12, if_neg c_13]) (by rw [m_X3_succeeds, if_neg c_1, if_neg c_2, if_neg c_4, if_neg c_5, if_neg c_8, if_neg c_10, if_pos c_11, if_pos c_12, if_neg c_13])
    by_cases c_14 : (x1 / (100000 : Int32)) = (7 : Int32)
    · refine lv_tableIn (tgt := 238) hx hb dX3_succeeds_70 (by rw [c_14]; decide) (by rw [c_14]; decide) (by rw [c_14]; rfl) (by decide) ?_
      refine lv_iload hx hb dX3_succeeds_238 (lv_at hl 2 rfl) ?_
      refine lv_if_ne (tgt := 257) hx hb dX3_succeeds_240 (by decide) (fun c_15 => ?_) (fun c_15 => ?_)
      · skip
        refine lv_iconst (v := (0 : Int32)) hx hb dX3_succeeds_257 (by decide) ?_
        exact mu_zret hx hb hr hlocks rfl hP hS dX3_succeeds_258 (by rw [m_X3_succeeds, if_neg c_1, if_neg c_2, if_neg c_4, if_neg c_5, if_neg c_8, if_neg c_10, if_neg c_11, if_pos c_14, if_neg c_15]) (by rw [m_X3_succeeds, if_neg c_1, if_neg c_2, if_neg c_4, if_neg c_5, if_neg c_8, if_neg c_10, if_neg c_11, if_pos c_14, if_neg c_15])
      · skip
        refine lv_aload_n hx hb dX3_succeeds_243 rfl (lv_at hl 7 rfl) ?_
        refine lv_iload_n hx hb dX3_succeeds_244 rfl (lv_at hl 5 rfl) ?_
        refine lv_iload hx hb dX3_succeeds_245 (lv_at hl 4 rfl) ?_
        refine roS (wc := (wSt cy a st)) (As := [.ref (a 0), .int ((x1 / (1000 : Int32)) - (((x1 / (1000 : Int32)) / (100 : Int32)) * (100 : Int32))), .int ((x1 / (100 : Int32)) - (((x1 / (100 : Int32)) / (10 : Int32)) * (10 : Int32)))]) (rest := []) (c_X3_isAt l D cy a st ((x1 / (1000 : Int32)) - (((x1 / (1000 : Int32)) / (100 : Int32)) * (100 : Int32))) ((x1 / (100 : Int32)) - (((x1 / (100 : Int32)) / (10 : Int32)) * (10 : Int32))) hOK) hCF gX3_succeeds_X3_isAt rfl hd_X3_isAt ⟨rfl, rfl, Nat.le_of_ble_eq_true rfl, Nat.le_of_ble_eq_true rfl⟩ hG hP rfl hl.1 rfl (Nat.le_of_ble_eq_true rfl) dX3_succeeds_247 ⟨Nat.le_refl _, Nat.le_refl _⟩ ?_
        refine lv_if_eq (tgt := 257) hx hb dX3_succeeds_250 (by decide) (fun c_16 => ?_) (fun c_16 => ?_)
        · skip
          refine lv_iconst (v := (0 : Int32)) hx hb dX3_succeeds_257 (by decide) ?_
          exact mu_zret hx hb hr hlocks rfl hP hS dX3_succeeds_258 (by rw [m_X3_succeeds, if_neg c_1, if_neg c_2, if_neg c_4, if_neg c_5, if_neg c_8, if_neg c_10, if_neg c_11, if_pos c_14, if_pos c_15, if_pos c_16]) (by rw [m_X3_succeeds, if_neg c_1, if_neg c_2, if_neg c_4, if_neg c_5, if_neg c_8, if_neg c_10, if_neg c_11, if_pos c_14, if_pos c_15, if_pos c_16])
        · skip
          refine lv_iconst (v := (1 : Int32)) hx hb dX3_succeeds_253 (by decide) ?_
          refine lv_goto (tgt := 258) hx hb dX3_succeeds_254 (by decide) ?_
          exact mu_zret hx hb hr hlocks rfl hP hS dX3_succeeds_258 (by rw [m_X3_succeeds, if_neg c_1, if_neg c_2, if_neg c_4, if_neg c_5, if_neg c_8, if_neg c_10, if_neg c_11, if_pos c_14, if_pos c_15, if_neg c_16]) (by rw [m_X3_succeeds, if_neg c_1, if_neg c_2, if_neg c_4, if_neg c_5, if_neg c_8, if_neg c_10, if_neg c_11, if_pos c_14, if_pos c_15, if_neg c_16])
    by_cases c_17 : (x1 / (100000 : Int32)) = (8 : Int32)
    · refine lv_tableIn (tgt := 259) hx hb dX3_succeeds_70 (by rw [c_17]; decide) (by rw [c_17]; decide) (by rw [c_17]; rfl) (by decide) ?_
      refine lv_iload hx hb dX3_succeeds_259 (lv_at hl 1 rfl) ?_
      refine lv_if_ne (tgt := 288) hx hb dX3_succeeds_261 (by decide) (fun c_18 => ?_) (fun c_18 => ?_)
      · skip
        refine lv_iconst (v := (0 : Int32)) hx hb dX3_succeeds_288 (by decide) ?_
        exact mu_zret hx hb hr hlocks rfl hP hS dX3_succeeds_289 (by rw [m_X3_succeeds, if_neg c_1, if_neg c_2, if_neg c_4, if_neg c_5, if_neg c_8, if_neg c_10, if_neg c_11, if_neg c_14, if_pos c_17, if_neg c_18]) (by rw [m_X3_succeeds, if_neg c_1, if_neg c_2, if_neg c_4, if_neg c_5, if_neg c_8, if_neg c_10, if_neg c_11, if_neg c_14, if_pos c_17, if_neg c_18])
      · skip
        refine lv_aload_n hx hb dX3_succeeds_264 rfl (lv_at hl 7 rfl) ?_
        refine lv_iload_n hx hb dX3_succeeds_265 rfl (lv_at hl 6 rfl) ?_
        refine lv_iload_n hx hb dX3_succeeds_266 rfl (lv_at hl 8 rfl) ?_
        refine lv_bipush (v := (10 : Int32)) hx hb dX3_succeeds_267 (by decide) ?_
        refine lv_idiv hx hb dX3_succeeds_269 (by decide) ?_
        refine lv_sipush (v := (1000 : Int32)) hx hb dX3_succeeds_270 (by decide) ?_
        refine lv_irem hx hb dX3_succeeds_273 (by decide) ?_
        refine lv_sipush (v := (500 : Int32)) hx hb dX3_succeeds_274 (by decide) ?_
        refine lv_isub hx hb dX3_succeeds_277 ?_
        refine roS (wc := (wSt cy a st)) (As := [.ref (a 0), .int ((x1 / (10000 : Int32)) - (((x1 / (10000 : Int32)) / (10 : Int32)) * (10 : Int32))), .int (((x1 / (10 : Int32)) - (((x1 / (10 : Int32)) / (1000 : Int32)) * (1000 : Int32))) - (500 : Int32))]) (rest := []) (c_X3_hasMoney l D cy a st ((x1 / (10000 : Int32)) - (((x1 / (10000 : Int32)) / (10 : Int32)) * (10 : Int32))) (((x1 / (10 : Int32)) - (((x1 / (10 : Int32)) / (1000 : Int32)) * (1000 : Int32))) - (500 : Int32)) hOK) hCF gX3_succeeds_X3_hasMoney rfl hd_X3_hasMoney ⟨rfl, rfl, Nat.le_of_ble_eq_true rfl, Nat.le_of_ble_eq_true rfl⟩ hG hP rfl hl.1 rfl (Nat.le_of_ble_eq_true rfl) dX3_succeeds_278 ⟨Nat.le_refl _, Nat.le_refl _⟩ ?_
        refine lv_if_eq (tgt := 288) hx hb dX3_succeeds_281 (by decide) (fun c_19 => ?_) (fun c_19 => ?_)
        · skip
          refine lv_iconst (v := (0 : Int32)) hx hb dX3_succeeds_288 (by decide) ?_
          exact mu_zret hx hb hr hlocks rfl hP hS dX3_succeeds_289 (by rw [m_X3_succeeds, if_neg c_1, if_neg c_2, if_neg c_4, if_neg c_5, if_neg c_8, if_neg c_10, if_neg c_11, if_neg c_14, if_pos c_17, if_pos c_18, if_pos c_19]) (by rw [m_X3_succeeds, if_neg c_1, if_neg c_2, if_neg c_4, if_neg c_5, if_neg c_8, if_neg c_10, if_neg c_11, if_neg c_14, if_pos c_17, if_pos c_18, if_pos c_19])
        · skip
          refine lv_iconst (v := (1 : Int32)) hx hb dX3_succeeds_284 (by decide) ?_
          refine lv_goto (tgt := 289) hx hb dX3_succeeds_285 (by decide) ?_
          exact mu_zret hx hb hr hlocks rfl hP hS dX3_succeeds_289 (by rw [m_X3_succeeds, if_neg c_1, if_neg c_2, if_neg c_4, if_neg c_5, if_neg c_8, if_neg c_10, if_neg c_11, if_neg c_14, if_pos c_17, if_pos c_18, if_neg c_19]) (by rw [m_X3_succeeds, if_neg c_1, if_neg c_2, if_neg c_4, if_neg c_5, if_neg c_8, if_neg c_10, if_neg c_11, if_neg c_14, if_pos c_17, if_pos c_18, if_neg c_19])
    by_cases c_20 : (x1 / (100000 : Int32)) = (9 : Int32)
    · refine lv_tableIn (tgt := 290) hx hb dX3_succeeds_70 (by rw [c_20]; decide) (by rw [c_20]; decide) (by rw [c_20]; rfl) (by decide) ?_
      refine lv_iload hx hb dX3_succeeds_290 (lv_at hl 0 rfl) ?_
      refine lv_if_eq (tgt := 311) hx hb dX3_succeeds_292 (by decide) (fun _ => ?_) (fun c => absurd (by decide) c)
      refine lv_iconst (v := (0 : Int32)) hx hb dX3_succeeds_311 (by decide) ?_
      exact mu_zret hx hb hr hlocks rfl hP hS dX3_succeeds_312 (by rw [m_X3_succeeds, if_neg c_1, if_neg c_2, if_neg c_4, if_neg c_5, if_neg c_8, if_neg c_10, if_neg c_11, if_neg c_14, if_neg c_17, if_pos c_20]) (by rw [m_X3_succeeds, if_neg c_1, if_neg c_2, if_neg c_4, if_neg c_5, if_neg c_8, if_neg c_10, if_neg c_11, if_neg c_14, if_neg c_17, if_pos c_20])
    · refine lv_tableOut (tgt := 313) hx hb dX3_succeeds_70 (by have q_2 := lv_neT (a := 1) c_2 rfl; have q_4 := lv_neT (a := 2) c_4 rfl; have q_5 := lv_neT (a := 3) c_5 rfl; have q_8 := lv_neT (a := 4) c_8 rfl; have q_10 := lv_neT (a := 5) c_10 rfl; have q_11 := lv_neT (a := 6) c_11 rfl; have q_14 := lv_neT (a := 7) c_14 rfl; have q_17 := lv_neT (a := 8) c_17 rfl; have q_20 := lv_neT (a := 9) c_20 rfl; omega) (by decide) ?_
      refine lv_iconst (v := (0 : Int32)) hx hb dX3_succeeds_313 (by decide) ?_
      exact mu_zret hx hb hr hlocks rfl hP hS dX3_succeeds_314 (by rw [m_X3_succeeds, if_neg c_1, if_neg c_2, if_neg c_4, if_neg c_5, if_neg c_8, if_neg c_10, if_neg c_11, if_neg c_14, if_neg c_17, if_neg c_20]) (by rw [m_X3_succeeds, if_neg c_1, if_neg c_2, if_neg c_4, if_neg c_5, if_neg c_8, if_neg c_10, if_neg c_11, if_neg c_14, if_neg c_17, if_neg c_20])
  · skip
    refine lv_iconst (v := (1 : Int32)) hx hb dX3_succeeds_59 (by decide) ?_
    refine lv_goto (tgt := 64) hx hb dX3_succeeds_60 (by decide) ?_
    refine lv_istore (lv' := [(8, .int (1 : Int32)), (7, .int (x1 - ((x1 / (10 : Int32)) * (10 : Int32)))), (6, .int (x1 - ((x1 / (100 : Int32)) * (100 : Int32)))), (5, .int ((x1 / (10 : Int32)) - (((x1 / (10 : Int32)) / (100 : Int32)) * (100 : Int32)))), (4, .int ((x1 / (100 : Int32)) - (((x1 / (100 : Int32)) / (10 : Int32)) * (10 : Int32)))), (3, .int ((x1 / (1000 : Int32)) - (((x1 / (1000 : Int32)) / (100 : Int32)) * (100 : Int32)))), (2, .int ((x1 / (10000 : Int32)) - (((x1 / (10000 : Int32)) / (10 : Int32)) * (10 : Int32)))), (0, .ref (a 0)), (1, .int x1)]) hx hb dX3_succeeds_64 hl (by decide) rfl (fun ls hl => ?_)
    refine lv_iload_n hx hb dX3_succeeds_66 rfl (lv_at hl 8 rfl) ?_
    refine lv_ldc (v := (100000 : Int32)) hx hb hown k_0 dX3_succeeds_67 ?_
    refine lv_idiv hx hb dX3_succeeds_69 (by decide) ?_
    by_cases c_21 : (x1 / (100000 : Int32)) = (1 : Int32)
    · refine lv_tableIn (tgt := 120) hx hb dX3_succeeds_70 (by rw [c_21]; decide) (by rw [c_21]; decide) (by rw [c_21]; rfl) (by decide) ?_
      refine lv_aload_n hx hb dX3_succeeds_120 rfl (lv_at hl 7 rfl) ?_
      refine lv_iload_n hx hb dX3_succeeds_121 rfl (lv_at hl 5 rfl) ?_
      refine lv_iload hx hb dX3_succeeds_122 (lv_at hl 4 rfl) ?_
      refine lv_iload hx hb dX3_succeeds_124 (lv_at hl 2 rfl) ?_
      refine muVN (A0 := A) (wc := (wSt cy a st)) (As := [.int ((x1 / (1000 : Int32)) - (((x1 / (1000 : Int32)) / (100 : Int32)) * (100 : Int32))), .int ((x1 / (100 : Int32)) - (((x1 / (100 : Int32)) / (10 : Int32)) * (10 : Int32))), .int (x1 - ((x1 / (100 : Int32)) * (100 : Int32)))]) (rest := []) (c_X5_tryLend l D cy a st ((x1 / (1000 : Int32)) - (((x1 / (1000 : Int32)) / (100 : Int32)) * (100 : Int32))) ((x1 / (100 : Int32)) - (((x1 / (100 : Int32)) / (10 : Int32)) * (10 : Int32))) (x1 - ((x1 / (100 : Int32)) * (100 : Int32))) hOK) hCF gX3_succeeds_X5_tryLend_n14 (nw_X3_14 hG.2) k_1 k_2 k_3 rfl hd_X5_tryLend ⟨rfl, rfl, Nat.le_of_ble_eq_true rfl, Nat.le_of_ble_eq_true rfl⟩ hG hP hD hS hA [0, 1, 2, 3, 4, 5, 6, 7, 8, 9, 10, 11, 12, 13, 14] rfl c_St_St h_St (ci := 3) rfl rfl g_St_0 rfl hl.1 rfl (Nat.le_of_ble_eq_true rfl) dX3_succeeds_126 ⟨Nat.le_refl _, Nat.le_refl _⟩ (fun H locs hP hD hS => ?_)
      have hP : va_P D vwCl (wSt cy a (m_X5_tryLend st ((x1 / (1000 : Int32)) - (((x1 / (1000 : Int32)) / (100 : Int32)) * (100 : Int32))) ((x1 / (100 : Int32)) - (((x1 / (100 : Int32)) / (10 : Int32)) * (10 : Int32))) (x1 - ((x1 / (100 : Int32)) * (100 : Int32)))).2) H := va_P_eq hP r_St_St
      have hD : va_D A (wSt cy a (m_X5_tryLend st ((x1 / (1000 : Int32)) - (((x1 / (1000 : Int32)) / (100 : Int32)) * (100 : Int32))) ((x1 / (100 : Int32)) - (((x1 / (100 : Int32)) / (10 : Int32)) * (10 : Int32))) (x1 - ((x1 / (100 : Int32)) * (100 : Int32)))).2) := va_D_eq hD r_St_St
      refine lv_if_lt (tgt := 136) hx hb dX3_succeeds_129 (by decide) (fun c_22 => ?_) (fun c_22 => ?_)
      · skip
        refine lv_iconst (v := (0 : Int32)) hx hb dX3_succeeds_136 (by decide) ?_
        exact mu_zret hx hb hr hlocks rfl hP hS dX3_succeeds_137 (by rw [m_X3_succeeds, if_pos c_1, if_pos c_21, if_pos c_22]) (by rw [m_X3_succeeds, if_pos c_1, if_pos c_21, if_pos c_22])
      · skip
        refine lv_iconst (v := (1 : Int32)) hx hb dX3_succeeds_132 (by decide) ?_
        refine lv_goto (tgt := 137) hx hb dX3_succeeds_133 (by decide) ?_
        exact mu_zret hx hb hr hlocks rfl hP hS dX3_succeeds_137 (by rw [m_X3_succeeds, if_pos c_1, if_pos c_21, if_neg c_22]) (by rw [m_X3_succeeds, if_pos c_1, if_pos c_21, if_neg c_22])
    by_cases c_23 : (x1 / (100000 : Int32)) = (2 : Int32)
    · refine lv_tableIn (tgt := 138) hx hb dX3_succeeds_70 (by rw [c_23]; decide) (by rw [c_23]; decide) (by rw [c_23]; rfl) (by decide) ?_
      refine lv_iload hx hb dX3_succeeds_138 (lv_at hl 0 rfl) ?_
      refine lv_if_eq (tgt := 156) hx hb dX3_succeeds_140 (by decide) (fun c => absurd c (by decide)) (fun _ => ?_)
      refine lv_aload_n hx hb dX3_succeeds_143 rfl (lv_at hl 7 rfl) ?_
      refine lv_iload hx hb dX3_succeeds_144 (lv_at hl 2 rfl) ?_
      refine muVN (A0 := A) (wc := (wSt cy a st)) (As := [.int (x1 - ((x1 / (100 : Int32)) * (100 : Int32)))]) (rest := []) (c_X5_tryBring l D cy a st (x1 - ((x1 / (100 : Int32)) * (100 : Int32))) hOK) hCF gX3_succeeds_X5_tryBring_n20 (nw_X3_20 hG.2) k_1 k_10 k_11 rfl hd_X5_tryBring ⟨rfl, rfl, Nat.le_of_ble_eq_true rfl, Nat.le_of_ble_eq_true rfl⟩ hG hP hD hS hA [0, 1, 2, 3, 4, 5, 6, 7, 8, 9, 10, 11, 12, 13, 14] rfl c_St_St h_St (ci := 3) rfl rfl g_St_0 rfl hl.1 rfl (Nat.le_of_ble_eq_true rfl) dX3_succeeds_146 ⟨Nat.le_refl _, Nat.le_refl _⟩ (fun H locs hP hD hS => ?_)
      have hP : va_P D vwCl (wSt cy a (m_X5_tryBring st (x1 - ((x1 / (100 : Int32)) * (100 : Int32)))).2) H := va_P_eq hP r_St_St
      have hD : va_D A (wSt cy a (m_X5_tryBring st (x1 - ((x1 / (100 : Int32)) * (100 : Int32)))).2) := va_D_eq hD r_St_St
      refine lv_if_lt (tgt := 156) hx hb dX3_succeeds_149 (by decide) (fun c_24 => ?_) (fun c_24 => ?_)
      · skip
        refine lv_iconst (v := (0 : Int32)) hx hb dX3_succeeds_156 (by decide) ?_
        exact mu_zret hx hb hr hlocks rfl hP hS dX3_succeeds_157 (by rw [m_X3_succeeds, if_pos c_1, if_neg c_21, if_pos c_23, if_pos c_24]) (by rw [m_X3_succeeds, if_pos c_1, if_neg c_21, if_pos c_23, if_pos c_24])
      · skip
        refine lv_iconst (v := (1 : Int32)) hx hb dX3_succeeds_152 (by decide) ?_
        refine lv_goto (tgt := 157) hx hb dX3_succeeds_153 (by decide) ?_
        exact mu_zret hx hb hr hlocks rfl hP hS dX3_succeeds_157 (by rw [m_X3_succeeds, if_pos c_1, if_neg c_21, if_pos c_23, if_neg c_24]) (by rw [m_X3_succeeds, if_pos c_1, if_neg c_21, if_pos c_23, if_neg c_24])
    by_cases c_25 : (x1 / (100000 : Int32)) = (3 : Int32)
    · refine lv_tableIn (tgt := 158) hx hb dX3_succeeds_70 (by rw [c_25]; decide) (by rw [c_25]; decide) (by rw [c_25]; rfl) (by decide) ?_
      refine lv_iload hx hb dX3_succeeds_158 (lv_at hl 1 rfl) ?_
      refine lv_if_ne (tgt := 177) hx hb dX3_succeeds_160 (by decide) (fun c_26 => ?_) (fun c_26 => ?_)
      · skip
        refine lv_iconst (v := (0 : Int32)) hx hb dX3_succeeds_177 (by decide) ?_
        exact mu_zret hx hb hr hlocks rfl hP hS dX3_succeeds_178 (by rw [m_X3_succeeds, if_pos c_1, if_neg c_21, if_neg c_23, if_pos c_25, if_neg c_26]) (by rw [m_X3_succeeds, if_pos c_1, if_neg c_21, if_neg c_23, if_pos c_25, if_neg c_26])
      · skip
        refine lv_aload_n hx hb dX3_succeeds_163 rfl (lv_at hl 7 rfl) ?_
        refine lv_iload_n hx hb dX3_succeeds_164 rfl (lv_at hl 5 rfl) ?_
        refine lv_iload hx hb dX3_succeeds_165 (lv_at hl 3 rfl) ?_
        refine muVN (A0 := A) (wc := (wSt cy a st)) (As := [.int ((x1 / (1000 : Int32)) - (((x1 / (1000 : Int32)) / (100 : Int32)) * (100 : Int32))), .int ((x1 / (10 : Int32)) - (((x1 / (10 : Int32)) / (100 : Int32)) * (100 : Int32)))]) (rest := []) (c_X5_tryExchange l D cy a st ((x1 / (1000 : Int32)) - (((x1 / (1000 : Int32)) / (100 : Int32)) * (100 : Int32))) ((x1 / (10 : Int32)) - (((x1 / (10 : Int32)) / (100 : Int32)) * (100 : Int32))) hOK) hCF gX3_succeeds_X5_tryExchange_n24 (nw_X3_24 hG.2) k_1 k_4 k_5 rfl hd_X5_tryExchange ⟨rfl, rfl, Nat.le_of_ble_eq_true rfl, Nat.le_of_ble_eq_true rfl⟩ hG hP hD hS hA [0, 1, 2, 3, 4, 5, 6, 7, 8, 9, 10, 11, 12, 13, 14] rfl c_St_St h_St (ci := 3) rfl rfl g_St_0 rfl hl.1 rfl (Nat.le_of_ble_eq_true rfl) dX3_succeeds_167 ⟨Nat.le_refl _, Nat.le_refl _⟩ (fun H locs hP hD hS => ?_)
        have hP : va_P D vwCl (wSt cy a (m_X5_tryExchange st ((x1 / (1000 : Int32)) - (((x1 / (1000 : Int32)) / (100 : Int32)) * (100 : Int32))) ((x1 / (10 : Int32)) - (((x1 / (10 : Int32)) / (100 : Int32)) * (100 : Int32)))).2) H := va_P_eq hP r_St_St
        have hD : va_D A (wSt cy a (m_X5_tryExchange st ((x1 / (1000 : Int32)) - (((x1 / (1000 : Int32)) / (100 : Int32)) * (100 : Int32))) ((x1 / (10 : Int32)) - (((x1 / (10 : Int32)) / (100 : Int32)) * (100 : Int32)))).2) := va_D_eq hD r_St_St
        refine lv_if_lt (tgt := 177) hx hb dX3_succeeds_170 (by decide) (fun c_27 => ?_) (fun c_27 => ?_)
        · skip
          refine lv_iconst (v := (0 : Int32)) hx hb dX3_succeeds_177 (by decide) ?_
          exact mu_zret hx hb hr hlocks rfl hP hS dX3_succeeds_178 (by rw [m_X3_succeeds, if_pos c_1, if_neg c_21, if_neg c_23, if_pos c_25, if_pos c_26, if_pos c_27]) (by rw [m_X3_succeeds, if_pos c_1, if_neg c_21, if_neg c_23, if_pos c_25, if_pos c_26, if_pos c_27])
        · skip
          refine lv_iconst (v := (1 : Int32)) hx hb dX3_succeeds_173 (by decide) ?_
          refine lv_goto (tgt := 178) hx hb dX3_succeeds_174 (by decide) ?_
          exact mu_zret hx hb hr hlocks rfl hP hS dX3_succeeds_178 (by rw [m_X3_succeeds, if_pos c_1, if_neg c_21, if_neg c_23, if_pos c_25, if_pos c_26, if_neg c_27]) (by rw [m_X3_succeeds, if_pos c_1, if_neg c_21, if_neg c_23, if_pos c_25, if_pos c_26, if_neg c_27])
    by_cases c_28 : (x1 / (100000 : Int32)) = (4 : Int32)
    · refine lv_tableIn (tgt := 179) hx hb dX3_succeeds_70 (by rw [c_28]; decide) (by rw [c_28]; decide) (by rw [c_28]; rfl) (by decide) ?_
      refine lv_aload_n hx hb dX3_succeeds_179 rfl (lv_at hl 7 rfl) ?_
      refine lv_iload_n hx hb dX3_succeeds_180 rfl (lv_at hl 5 rfl) ?_
      refine lv_iload hx hb dX3_succeeds_181 (lv_at hl 3 rfl) ?_
      refine lv_iload hx hb dX3_succeeds_183 (lv_at hl 1 rfl) ?_
      refine muVN (A0 := A) (wc := (wSt cy a st)) (As := [.int ((x1 / (1000 : Int32)) - (((x1 / (1000 : Int32)) / (100 : Int32)) * (100 : Int32))), .int ((x1 / (10 : Int32)) - (((x1 / (10 : Int32)) / (100 : Int32)) * (100 : Int32))), .int (x1 - ((x1 / (10 : Int32)) * (10 : Int32)))]) (rest := []) (c_X5_tryTake l D cy a st ((x1 / (1000 : Int32)) - (((x1 / (1000 : Int32)) / (100 : Int32)) * (100 : Int32))) ((x1 / (10 : Int32)) - (((x1 / (10 : Int32)) / (100 : Int32)) * (100 : Int32))) (x1 - ((x1 / (10 : Int32)) * (10 : Int32))) hOK) hCF gX3_succeeds_X5_tryTake_n28 (nw_X3_28 hG.2) k_1 k_6 k_7 rfl hd_X5_tryTake ⟨rfl, rfl, Nat.le_of_ble_eq_true rfl, Nat.le_of_ble_eq_true rfl⟩ hG hP hD hS hA [0, 1, 2, 3, 4, 5, 6, 7, 8, 9, 10, 11, 12, 13, 14] rfl c_St_St h_St (ci := 3) rfl rfl g_St_0 rfl hl.1 rfl (Nat.le_of_ble_eq_true rfl) dX3_succeeds_185 ⟨Nat.le_refl _, Nat.le_refl _⟩ (fun H locs hP hD hS => ?_)
      have hP : va_P D vwCl (wSt cy a (m_X5_tryTake st ((x1 / (1000 : Int32)) - (((x1 / (1000 : Int32)) / (100 : Int32)) * (100 : Int32))) ((x1 / (10 : Int32)) - (((x1 / (10 : Int32)) / (100 : Int32)) * (100 : Int32))) (x1 - ((x1 / (10 : Int32)) * (10 : Int32)))).2) H := va_P_eq hP r_St_St
      have hD : va_D A (wSt cy a (m_X5_tryTake st ((x1 / (1000 : Int32)) - (((x1 / (1000 : Int32)) / (100 : Int32)) * (100 : Int32))) ((x1 / (10 : Int32)) - (((x1 / (10 : Int32)) / (100 : Int32)) * (100 : Int32))) (x1 - ((x1 / (10 : Int32)) * (10 : Int32)))).2) := va_D_eq hD r_St_St
      refine lv_if_lt (tgt := 195) hx hb dX3_succeeds_188 (by decide) (fun c_29 => ?_) (fun c_29 => ?_)
      · skip
        refine lv_iconst (v := (0 : Int32)) hx hb dX3_succeeds_195 (by decide) ?_
        exact mu_zret hx hb hr hlocks rfl hP hS dX3_succeeds_196 (by rw [m_X3_succeeds, if_pos c_1, if_neg c_21, if_neg c_23, if_neg c_25, if_pos c_28, if_pos c_29]) (by rw [m_X3_succeeds, if_pos c_1, if_neg c_21, if_neg c_23, if_neg c_25, if_pos c_28, if_pos c_29])
      · skip
        refine lv_iconst (v := (1 : Int32)) hx hb dX3_succeeds_191 (by decide) ?_
        refine lv_goto (tgt := 196) hx hb dX3_succeeds_192 (by decide) ?_
        exact mu_zret hx hb hr hlocks rfl hP hS dX3_succeeds_196 (by rw [m_X3_succeeds, if_pos c_1, if_neg c_21, if_neg c_23, if_neg c_25, if_pos c_28, if_neg c_29]) (by rw [m_X3_succeeds, if_pos c_1, if_neg c_21, if_neg c_23, if_neg c_25, if_pos c_28, if_neg c_29])
    by_cases c_30 : (x1 / (100000 : Int32)) = (5 : Int32)
    · refine lv_tableIn (tgt := 197) hx hb dX3_succeeds_70 (by rw [c_30]; decide) (by rw [c_30]; decide) (by rw [c_30]; rfl) (by decide) ?_
      refine lv_iload hx hb dX3_succeeds_197 (lv_at hl 0 rfl) ?_
      refine lv_if_eq (tgt := 215) hx hb dX3_succeeds_199 (by decide) (fun c => absurd c (by decide)) (fun _ => ?_)
      refine lv_aload_n hx hb dX3_succeeds_202 rfl (lv_at hl 7 rfl) ?_
      refine lv_iload hx hb dX3_succeeds_203 (lv_at hl 2 rfl) ?_
      refine muVN (A0 := A) (wc := (wSt cy a st)) (As := [.int (x1 - ((x1 / (100 : Int32)) * (100 : Int32)))]) (rest := []) (c_X5_tryDays l D cy a st (x1 - ((x1 / (100 : Int32)) * (100 : Int32)))) hCF gX3_succeeds_X5_tryDays_n31 (nw_X3_31 hG.2) k_1 k_12 k_13 rfl hd_X5_tryDays ⟨rfl, rfl, Nat.le_of_ble_eq_true rfl, Nat.le_of_ble_eq_true rfl⟩ hG hP hD hS hA [0, 1, 2, 3, 4, 5, 6, 7, 8, 9, 10, 11, 12, 13, 14] rfl c_St_St h_St (ci := 3) rfl rfl g_St_0 rfl hl.1 rfl (Nat.le_of_ble_eq_true rfl) dX3_succeeds_205 ⟨Nat.le_refl _, Nat.le_refl _⟩ (fun H locs hP hD hS => ?_)
      have hP : va_P D vwCl (wSt cy a (m_X5_tryDays st (x1 - ((x1 / (100 : Int32)) * (100 : Int32)))).2) H := va_P_eq hP r_St_St
      have hD : va_D A (wSt cy a (m_X5_tryDays st (x1 - ((x1 / (100 : Int32)) * (100 : Int32)))).2) := va_D_eq hD r_St_St
      refine lv_if_lt (tgt := 215) hx hb dX3_succeeds_208 (by decide) (fun c_31 => ?_) (fun c_31 => ?_)
      · skip
        refine lv_iconst (v := (0 : Int32)) hx hb dX3_succeeds_215 (by decide) ?_
        exact mu_zret hx hb hr hlocks rfl hP hS dX3_succeeds_216 (by rw [m_X3_succeeds, if_pos c_1, if_neg c_21, if_neg c_23, if_neg c_25, if_neg c_28, if_pos c_30, if_pos c_31]) (by rw [m_X3_succeeds, if_pos c_1, if_neg c_21, if_neg c_23, if_neg c_25, if_neg c_28, if_pos c_30, if_pos c_31])
      · skip
        refine lv_iconst (v := (1 : Int32)) hx hb dX3_succeeds_211 (by decide) ?_
        refine lv_goto (tgt := 216) hx hb dX3_succeeds_212 (by decide) ?_
        exact mu_zret hx hb hr hlocks rfl hP hS dX3_succeeds_216 (by rw [m_X3_succeeds, if_pos c_1, if_neg c_21, if_neg c_23, if_neg c_25, if_neg c_28, if_pos c_30, if_neg c_31]) (by rw [m_X3_succeeds, if_pos c_1, if_neg c_21, if_neg c_23, if_neg c_25, if_neg c_28, if_pos c_30, if_neg c_31])
    by_cases c_32 : (x1 / (100000 : Int32)) = (6 : Int32)
    · refine lv_tableIn (tgt := 217) hx hb dX3_succeeds_70 (by rw [c_32]; decide) (by rw [c_32]; decide) (by rw [c_32]; rfl) (by decide) ?_
      refine lv_iload hx hb dX3_succeeds_217 (lv_at hl 2 rfl) ?_
      refine lv_if_ne (tgt := 236) hx hb dX3_succeeds_219 (by decide) (fun c_33 => ?_) (fun c_33 => ?_)
      · skip
        refine lv_iconst (v := (0 : Int32)) hx hb dX3_succeeds_236 (by decide) ?_
        exact mu_zret hx hb hr hlocks rfl hP hS dX3_succeeds_237 (by rw [m_X3_succeeds, if_pos c_1, if_neg c_21, if_neg c_23, if_neg c_25, if_neg c_28, if_neg c_30, if_pos c_32, if_neg c_33]) (by rw [m_X3_succeeds, if_pos c_1, if_neg c_21, if_neg c_23, if_neg c_25, if_neg c_28, if_neg c_30, if_pos c_32, if_neg c_33])
      · skip
        refine lv_aload_n hx hb dX3_succeeds_222 rfl (lv_at hl 7 rfl) ?_
        refine lv_iload_n hx hb dX3_succeeds_223 rfl (lv_at hl 5 rfl) ?_
        refine lv_iload hx hb dX3_succeeds_224 (lv_at hl 4 rfl) ?_
        refine muVN (A0 := A) (wc := (wSt cy a st)) (As := [.int ((x1 / (1000 : Int32)) - (((x1 / (1000 : Int32)) / (100 : Int32)) * (100 : Int32))), .int ((x1 / (100 : Int32)) - (((x1 / (100 : Int32)) / (10 : Int32)) * (10 : Int32)))]) (rest := []) (c_X5_tryBuy l D cy a st ((x1 / (1000 : Int32)) - (((x1 / (1000 : Int32)) / (100 : Int32)) * (100 : Int32))) ((x1 / (100 : Int32)) - (((x1 / (100 : Int32)) / (10 : Int32)) * (10 : Int32))) hOK) hCF gX3_succeeds_X5_tryBuy_n34 (nw_X3_34 hG.2) k_1 k_8 k_9 rfl hd_X5_tryBuy ⟨rfl, rfl, Nat.le_of_ble_eq_true rfl, Nat.le_of_ble_eq_true rfl⟩ hG hP hD hS hA [0, 1, 2, 3, 4, 5, 6, 7, 8, 9, 10, 11, 12, 13, 14] rfl c_St_St h_St (ci := 3) rfl rfl g_St_0 rfl hl.1 rfl (Nat.le_of_ble_eq_true rfl) dX3_succeeds_226 ⟨Nat.le_refl _, Nat.le_refl _⟩ (fun H locs hP hD hS => ?_)
        have hP : va_P D vwCl (wSt cy a (m_X5_tryBuy st ((x1 / (1000 : Int32)) - (((x1 / (1000 : Int32)) / (100 : Int32)) * (100 : Int32))) ((x1 / (100 : Int32)) - (((x1 / (100 : Int32)) / (10 : Int32)) * (10 : Int32)))).2) H := va_P_eq hP r_St_St
        have hD : va_D A (wSt cy a (m_X5_tryBuy st ((x1 / (1000 : Int32)) - (((x1 / (1000 : Int32)) / (100 : Int32)) * (100 : Int32))) ((x1 / (100 : Int32)) - (((x1 / (100 : Int32)) / (10 : Int32)) * (10 : Int32)))).2) := va_D_eq hD r_St_St
        refine lv_if_lt (tgt := 236) hx hb dX3_succeeds_229 (by decide) (fun c_34 => ?_) (fun c_34 => ?_)
        · skip
          refine lv_iconst (v := (0 : Int32)) hx hb dX3_succeeds_236 (by decide) ?_
          exact mu_zret hx hb hr hlocks rfl hP hS dX3_succeeds_237 (by rw [m_X3_succeeds, if_pos c_1, if_neg c_21, if_neg c_23, if_neg c_25, if_neg c_28, if_neg c_30, if_pos c_32, if_pos c_33, if_pos c_34]) (by rw [m_X3_succeeds, if_pos c_1, if_neg c_21, if_neg c_23, if_neg c_25, if_neg c_28, if_neg c_30, if_pos c_32, if_pos c_33, if_pos c_34])
        · skip
          refine lv_iconst (v := (1 : Int32)) hx hb dX3_succeeds_232 (by decide) ?_
          refine lv_goto (tgt := 237) hx hb dX3_succeeds_233 (by decide) ?_
          exact mu_zret hx hb hr hlocks rfl hP hS dX3_succeeds_237 (by rw [m_X3_succeeds, if_pos c_1, if_neg c_21, if_neg c_23, if_neg c_25, if_neg c_28, if_neg c_30, if_pos c_32, if_pos c_33, if_neg c_34]) (by rw [m_X3_succeeds, if_pos c_1, if_neg c_21, if_neg c_23, if_neg c_25, if_neg c_28, if_neg c_30, if_pos c_32, if_pos c_33, if_neg c_34])
    by_cases c_35 : (x1 / (100000 : Int32)) = (7 : Int32)
    · refine lv_tableIn (tgt := 238) hx hb dX3_succeeds_70 (by rw [c_35]; decide) (by rw [c_35]; decide) (by rw [c_35]; rfl) (by decide) ?_
      refine lv_iload hx hb dX3_succeeds_238 (lv_at hl 2 rfl) ?_
      refine lv_if_ne (tgt := 257) hx hb dX3_succeeds_240 (by decide) (fun c_36 => ?_) (fun c_36 => ?_)
      · skip
        refine lv_iconst (v := (0 : Int32)) hx hb dX3_succeeds_257 (by decide) ?_
        exact mu_zret hx hb hr hlocks rfl hP hS dX3_succeeds_258 (by rw [m_X3_succeeds, if_pos c_1, if_neg c_21, if_neg c_23, if_neg c_25, if_neg c_28, if_neg c_30, if_neg c_32, if_pos c_35, if_neg c_36]) (by rw [m_X3_succeeds, if_pos c_1, if_neg c_21, if_neg c_23, if_neg c_25, if_neg c_28, if_neg c_30, if_neg c_32, if_pos c_35, if_neg c_36])
      · skip
        refine lv_aload_n hx hb dX3_succeeds_243 rfl (lv_at hl 7 rfl) ?_
        refine lv_iload_n hx hb dX3_succeeds_244 rfl (lv_at hl 5 rfl) ?_
        refine lv_iload hx hb dX3_succeeds_245 (lv_at hl 4 rfl) ?_
        refine roS (wc := (wSt cy a st)) (As := [.ref (a 0), .int ((x1 / (1000 : Int32)) - (((x1 / (1000 : Int32)) / (100 : Int32)) * (100 : Int32))), .int ((x1 / (100 : Int32)) - (((x1 / (100 : Int32)) / (10 : Int32)) * (10 : Int32)))]) (rest := []) (c_X3_isAt l D cy a st ((x1 / (1000 : Int32)) - (((x1 / (1000 : Int32)) / (100 : Int32)) * (100 : Int32))) ((x1 / (100 : Int32)) - (((x1 / (100 : Int32)) / (10 : Int32)) * (10 : Int32))) hOK) hCF gX3_succeeds_X3_isAt rfl hd_X3_isAt ⟨rfl, rfl, Nat.le_of_ble_eq_true rfl, Nat.le_of_ble_eq_true rfl⟩ hG hP rfl hl.1 rfl (Nat.le_of_ble_eq_true rfl) dX3_succeeds_247 ⟨Nat.le_refl _, Nat.le_refl _⟩ ?_
        refine lv_if_eq (tgt := 257) hx hb dX3_succeeds_250 (by decide) (fun c_37 => ?_) (fun c_37 => ?_)
        · skip
          refine lv_iconst (v := (0 : Int32)) hx hb dX3_succeeds_257 (by decide) ?_
          exact mu_zret hx hb hr hlocks rfl hP hS dX3_succeeds_258 (by rw [m_X3_succeeds, if_pos c_1, if_neg c_21, if_neg c_23, if_neg c_25, if_neg c_28, if_neg c_30, if_neg c_32, if_pos c_35, if_pos c_36, if_pos c_37]) (by rw [m_X3_succeeds, if_pos c_1, if_neg c_21, if_neg c_23, if_neg c_25, if_neg c_28, if_neg c_30, if_neg c_32, if_pos c_35, if_pos c_36, if_pos c_37])
        · skip
          refine lv_iconst (v := (1 : Int32)) hx hb dX3_succeeds_253 (by decide) ?_
          refine lv_goto (tgt := 258) hx hb dX3_succeeds_254 (by decide) ?_
          exact mu_zret hx hb hr hlocks rfl hP hS dX3_succeeds_258 (by rw [m_X3_succeeds, if_pos c_1, if_neg c_21, if_neg c_23, if_neg c_25, if_neg c_28, if_neg c_30, if_neg c_32, if_pos c_35, if_pos c_36, if_neg c_37]) (by rw [m_X3_succeeds, if_pos c_1, if_neg c_21, if_neg c_23, if_neg c_25, if_neg c_28, if_neg c_30, if_neg c_32, if_pos c_35, if_pos c_36, if_neg c_37])
    by_cases c_38 : (x1 / (100000 : Int32)) = (8 : Int32)
    · refine lv_tableIn (tgt := 259) hx hb dX3_succeeds_70 (by rw [c_38]; decide) (by rw [c_38]; decide) (by rw [c_38]; rfl) (by decide) ?_
      refine lv_iload hx hb dX3_succeeds_259 (lv_at hl 1 rfl) ?_
      refine lv_if_ne (tgt := 288) hx hb dX3_succeeds_261 (by decide) (fun c_39 => ?_) (fun c_39 => ?_)
      · skip
        refine lv_iconst (v := (0 : Int32)) hx hb dX3_succeeds_288 (by decide) ?_
        exact mu_zret hx hb hr hlocks rfl hP hS dX3_succeeds_289 (by rw [m_X3_succeeds, if_pos c_1, if_neg c_21, if_neg c_23, if_neg c_25, if_neg c_28, if_neg c_30, if_neg c_32, if_neg c_35, if_pos c_38, if_neg c_39]) (by rw [m_X3_succeeds, if_pos c_1, if_neg c_21, if_neg c_23, if_neg c_25, if_neg c_28, if_neg c_30, if_neg c_32, if_neg c_35, if_pos c_38, if_neg c_39])
      · skip
        refine lv_aload_n hx hb dX3_succeeds_264 rfl (lv_at hl 7 rfl) ?_
        refine lv_iload_n hx hb dX3_succeeds_265 rfl (lv_at hl 6 rfl) ?_
        refine lv_iload_n hx hb dX3_succeeds_266 rfl (lv_at hl 8 rfl) ?_
        refine lv_bipush (v := (10 : Int32)) hx hb dX3_succeeds_267 (by decide) ?_
        refine lv_idiv hx hb dX3_succeeds_269 (by decide) ?_
        refine lv_sipush (v := (1000 : Int32)) hx hb dX3_succeeds_270 (by decide) ?_
        refine lv_irem hx hb dX3_succeeds_273 (by decide) ?_
        refine lv_sipush (v := (500 : Int32)) hx hb dX3_succeeds_274 (by decide) ?_
        refine lv_isub hx hb dX3_succeeds_277 ?_
        refine roS (wc := (wSt cy a st)) (As := [.ref (a 0), .int ((x1 / (10000 : Int32)) - (((x1 / (10000 : Int32)) / (10 : Int32)) * (10 : Int32))), .int (((x1 / (10 : Int32)) - (((x1 / (10 : Int32)) / (1000 : Int32)) * (1000 : Int32))) - (500 : Int32))]) (rest := []) (c_X3_hasMoney l D cy a st ((x1 / (10000 : Int32)) - (((x1 / (10000 : Int32)) / (10 : Int32)) * (10 : Int32))) (((x1 / (10 : Int32)) - (((x1 / (10 : Int32)) / (1000 : Int32)) * (1000 : Int32))) - (500 : Int32)) hOK) hCF gX3_succeeds_X3_hasMoney rfl hd_X3_hasMoney ⟨rfl, rfl, Nat.le_of_ble_eq_true rfl, Nat.le_of_ble_eq_true rfl⟩ hG hP rfl hl.1 rfl (Nat.le_of_ble_eq_true rfl) dX3_succeeds_278 ⟨Nat.le_refl _, Nat.le_refl _⟩ ?_
        refine lv_if_eq (tgt := 288) hx hb dX3_succeeds_281 (by decide) (fun c_40 => ?_) (fun c_40 => ?_)
        · skip
          refine lv_iconst (v := (0 : Int32)) hx hb dX3_succeeds_288 (by decide) ?_
          exact mu_zret hx hb hr hlocks rfl hP hS dX3_succeeds_289 (by rw [m_X3_succeeds, if_pos c_1, if_neg c_21, if_neg c_23, if_neg c_25, if_neg c_28, if_neg c_30, if_neg c_32, if_neg c_35, if_pos c_38, if_pos c_39, if_pos c_40]) (by rw [m_X3_succeeds, if_pos c_1, if_neg c_21, if_neg c_23, if_neg c_25, if_neg c_28, if_neg c_30, if_neg c_32, if_neg c_35, if_pos c_38, if_pos c_39, if_pos c_40])
        · skip
          refine lv_iconst (v := (1 : Int32)) hx hb dX3_succeeds_284 (by decide) ?_
          refine lv_goto (tgt := 289) hx hb dX3_succeeds_285 (by decide) ?_
          exact mu_zret hx hb hr hlocks rfl hP hS dX3_succeeds_289 (by rw [m_X3_succeeds, if_pos c_1, if_neg c_21, if_neg c_23, if_neg c_25, if_neg c_28, if_neg c_30, if_neg c_32, if_neg c_35, if_pos c_38, if_pos c_39, if_neg c_40]) (by rw [m_X3_succeeds, if_pos c_1, if_neg c_21, if_neg c_23, if_neg c_25, if_neg c_28, if_neg c_30, if_neg c_32, if_neg c_35, if_pos c_38, if_pos c_39, if_neg c_40])
    by_cases c_41 : (x1 / (100000 : Int32)) = (9 : Int32)
    · refine lv_tableIn (tgt := 290) hx hb dX3_succeeds_70 (by rw [c_41]; decide) (by rw [c_41]; decide) (by rw [c_41]; rfl) (by decide) ?_
      refine lv_iload hx hb dX3_succeeds_290 (lv_at hl 0 rfl) ?_
      refine lv_if_eq (tgt := 311) hx hb dX3_succeeds_292 (by decide) (fun c => absurd c (by decide)) (fun _ => ?_)
      refine lv_aload_n hx hb dX3_succeeds_295 rfl (lv_at hl 7 rfl) ?_
      refine va_getN (D := D) (ci := 3) (v := .ref (a 1)) (C := RX5) (T := TX5) (N := 9) hx hb hts in_X5 hown hG.1 hP 0 g_St_0 rfl 0 (by decide) (va_Nw.use rfl (nw_X3_44 hG.2)) (fun _ h9 => h9) rfl dX3_succeeds_296 ?_
      refine roVN (wc := (wUn cy (a 1) (a 2) (a 3) (a 4) (a 5) (a 6) (sU st))) (As := []) (rest := []) (c_X7_usableOnes l D cy (a 1) (a 2) (a 3) (a 4) (a 5) (a 6) (sU st) hOK.1) hCF gX3_succeeds_X7_usableOnes_n48 (nw_X3_48 hG.2) k_14 k_15 k_16 rfl hd_X7_usableOnes ⟨rfl, rfl, Nat.le_of_ble_eq_true rfl, Nat.le_of_ble_eq_true rfl⟩ hG (hP.sub (ws' := (wUn cy (a 1) (a 2) (a 3) (a 4) (a 5) (a 6) (sU st))) [1, 2, 3, 4, 5, 6] u_St_Un) (ci := 5) rfl rfl g_Un_0 rfl hl.1 rfl (Nat.le_of_ble_eq_true rfl) dX3_succeeds_299 ⟨Nat.le_refl _, Nat.le_refl _⟩ ?_
      refine lv_iload hx hb dX3_succeeds_302 (lv_at hl 2 rfl) ?_
      refine lv_icmp_lt (tgt := 311) hx hb dX3_succeeds_304 (by decide) (fun c_42 => ?_) (fun c_42 => ?_)
      · skip
        refine lv_iconst (v := (0 : Int32)) hx hb dX3_succeeds_311 (by decide) ?_
        exact mu_zret hx hb hr hlocks rfl hP hS dX3_succeeds_312 (by rw [m_X3_succeeds, if_pos c_1, if_neg c_21, if_neg c_23, if_neg c_25, if_neg c_28, if_neg c_30, if_neg c_32, if_neg c_35, if_neg c_38, if_pos c_41, if_pos c_42]) (by rw [m_X3_succeeds, if_pos c_1, if_neg c_21, if_neg c_23, if_neg c_25, if_neg c_28, if_neg c_30, if_neg c_32, if_neg c_35, if_neg c_38, if_pos c_41, if_pos c_42])
      · skip
        refine lv_iconst (v := (1 : Int32)) hx hb dX3_succeeds_307 (by decide) ?_
        refine lv_goto (tgt := 312) hx hb dX3_succeeds_308 (by decide) ?_
        exact mu_zret hx hb hr hlocks rfl hP hS dX3_succeeds_312 (by rw [m_X3_succeeds, if_pos c_1, if_neg c_21, if_neg c_23, if_neg c_25, if_neg c_28, if_neg c_30, if_neg c_32, if_neg c_35, if_neg c_38, if_pos c_41, if_neg c_42]) (by rw [m_X3_succeeds, if_pos c_1, if_neg c_21, if_neg c_23, if_neg c_25, if_neg c_28, if_neg c_30, if_neg c_32, if_neg c_35, if_neg c_38, if_pos c_41, if_neg c_42])
    · refine lv_tableOut (tgt := 313) hx hb dX3_succeeds_70 (by have q_21 := lv_neT (a := 1) c_21 rfl; have q_23 := lv_neT (a := 2) c_23 rfl; have q_25 := lv_neT (a := 3) c_25 rfl; have q_28 := lv_neT (a := 4) c_28 rfl; have q_30 := lv_neT (a := 5) c_30 rfl; have q_32 := lv_neT (a := 6) c_32 rfl; have q_35 := lv_neT (a := 7) c_35 rfl; have q_38 := lv_neT (a := 8) c_38 rfl; have q_41 := lv_neT (a := 9) c_41 rfl; omega) (by decide) ?_
      refine lv_iconst (v := (0 : Int32)) hx hb dX3_succeeds_313 (by decide) ?_
      exact mu_zret hx hb hr hlocks rfl hP hS dX3_succeeds_314 (by rw [m_X3_succeeds, if_pos c_1, if_neg c_21, if_neg c_23, if_neg c_25, if_neg c_28, if_neg c_30, if_neg c_32, if_neg c_35, if_neg c_38, if_neg c_41]) (by rw [m_X3_succeeds, if_pos c_1, if_neg c_21, if_neg c_23, if_neg c_25, if_neg c_28, if_neg c_30, if_neg c_32, if_neg c_35, if_neg c_38, if_neg c_41])
