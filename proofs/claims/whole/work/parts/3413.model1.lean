def m_X9_whyNotSettle (r : (Nat → Int32)) (x1 : Int32) (x2 : Int32) (x3 : Int32) (x4 : Int32) : Int32 := if (m_X9_isHolder x1) = (0 : Int32) then (1 : Int32) else if (m_X9_isHolder x2) = (0 : Int32) then (1 : Int32) else if (m_X9_isKind x3) = (0 : Int32) then (1 : Int32) else if (m_X9_isPart x4) = (0 : Int32) then (1 : Int32) else if (r (m_X9_owedAt x1 x2 x3 x4).toNatClampNeg) = (0 : Int32) then (2 : Int32) else (0 : Int32)
theorem hd_X9_whyNotSettle : yX9_whyNotSettle.cls = RX9 ∧ yX9_whyNotSettle.cls ≠ "java/lang/invoke/MethodHandle" ∧ yX9_whyNotSettle.cls ≠ "java/lang/invoke/VarHandle" ∧ (parseMethodDescriptor yX9_whyNotSettle.desc).map (fun d => d.parameters.length) = some 5 := by decide +kernel
set_option maxHeartbeats 8000000 in
set_option maxRecDepth 20000 in
theorem c_X9_whyNotSettle (l : Launch) (D : va_G) (cy : Nat → ClassId) (a0 : Nat) (r : (Nat → Int32)) (x1 : Int32) (x2 : Int32) (x3 : Int32) (x4 : Int32) : RO l D cy yX9_whyNotSettle wsX9_whyNotSettle ({ frames := 2, cells := 0, slots := 0, locals := 45 } : Room) (wAr cy a0 r) [.ref a0, .int x1, .int x2, .int x3, .int x4] (m_X9_whyNotSettle r x1 x2 x3 x4) := by
  refine RO.body (by decide) rfl (Nat.le_of_ble_eq_true rfl) ?_
  intro p e s m below meth c hx hb hml hr hts hown hlocks hP hG ls hl
  have hl : lv_has ls 5 [(0, .ref a0), (1, .int x1), (2, .int x2), (3, .int x3), (4, .int x4)] := hl
  have hCF : CallFix p m c cX9_whyNotSettle 5 s ([.ref a0, .int x1, .int x2, .int x3, .int x4] : List Value).toArray wsX9_whyNotSettle RX9 := ⟨hx, hb, hml, hown, hts⟩
  refine lv_iload_n hx hb dX9_whyNotSettle_0 rfl (lv_at hl 1 rfl) ?_
  refine roS (wc := ([] : va_W)) (As := [.int x1]) (rest := []) (c_X9_isHolder l D cy x1) hCF gX9_whyNotSettle_X9_isHolder rfl hd_X9_isHolder ⟨rfl, rfl, Nat.le_of_ble_eq_true rfl, Nat.le_of_ble_eq_true rfl⟩ hG va_P_nil rfl hl.1 rfl (Nat.le_of_ble_eq_true rfl) dX9_whyNotSettle_1 ⟨Nat.le_refl _, Nat.le_refl _⟩ ?_
  refine lv_if_eq (tgt := 29) hx hb dX9_whyNotSettle_4 (by decide) (fun c_1 => ?_) (fun c_1 => ?_)
  · skip
    refine lv_iconst (v := (1 : Int32)) hx hb dX9_whyNotSettle_29 (by decide) ?_
    refine lv_goto (tgt := 51) hx hb dX9_whyNotSettle_30 (by decide) ?_
    exact ro_iret hx hb hr hlocks dX9_whyNotSettle_51 (by rw [m_X9_whyNotSettle, if_pos c_1])
  · skip
    refine lv_iload_n hx hb dX9_whyNotSettle_7 rfl (lv_at hl 2 rfl) ?_
    refine roS (wc := ([] : va_W)) (As := [.int x2]) (rest := []) (c_X9_isHolder l D cy x2) hCF gX9_whyNotSettle_X9_isHolder rfl hd_X9_isHolder ⟨rfl, rfl, Nat.le_of_ble_eq_true rfl, Nat.le_of_ble_eq_true rfl⟩ hG va_P_nil rfl hl.1 rfl (Nat.le_of_ble_eq_true rfl) dX9_whyNotSettle_8 ⟨Nat.le_refl _, Nat.le_refl _⟩ ?_
    refine lv_if_eq (tgt := 29) hx hb dX9_whyNotSettle_11 (by decide) (fun c_2 => ?_) (fun c_2 => ?_)
    · skip
      refine lv_iconst (v := (1 : Int32)) hx hb dX9_whyNotSettle_29 (by decide) ?_
      refine lv_goto (tgt := 51) hx hb dX9_whyNotSettle_30 (by decide) ?_
      exact ro_iret hx hb hr hlocks dX9_whyNotSettle_51 (by rw [m_X9_whyNotSettle, if_neg c_1, if_pos c_2])
    · skip
      refine lv_iload_n hx hb dX9_whyNotSettle_14 rfl (lv_at hl 3 rfl) ?_
      refine roS (wc := ([] : va_W)) (As := [.int x3]) (rest := []) (c_X9_isKind l D cy x3) hCF gX9_whyNotSettle_X9_isKind rfl hd_X9_isKind ⟨rfl, rfl, Nat.le_of_ble_eq_true rfl, Nat.le_of_ble_eq_true rfl⟩ hG va_P_nil rfl hl.1 rfl (Nat.le_of_ble_eq_true rfl) dX9_whyNotSettle_15 ⟨Nat.le_refl _, Nat.le_refl _⟩ ?_
      refine lv_if_eq (tgt := 29) hx hb dX9_whyNotSettle_18 (by decide) (fun c_3 => ?_) (fun c_3 => ?_)
      · skip
        refine lv_iconst (v := (1 : Int32)) hx hb dX9_whyNotSettle_29 (by decide) ?_
        refine lv_goto (tgt := 51) hx hb dX9_whyNotSettle_30 (by decide) ?_
        exact ro_iret hx hb hr hlocks dX9_whyNotSettle_51 (by rw [m_X9_whyNotSettle, if_neg c_1, if_neg c_2, if_pos c_3])
      · skip
        refine lv_iload hx hb dX9_whyNotSettle_21 (lv_at hl 4 rfl) ?_
        refine roS (wc := ([] : va_W)) (As := [.int x4]) (rest := []) (c_X9_isPart l D cy x4) hCF gX9_whyNotSettle_X9_isPart rfl hd_X9_isPart ⟨rfl, rfl, Nat.le_of_ble_eq_true rfl, Nat.le_of_ble_eq_true rfl⟩ hG va_P_nil rfl hl.1 rfl (Nat.le_of_ble_eq_true rfl) dX9_whyNotSettle_23 ⟨Nat.le_refl _, Nat.le_refl _⟩ ?_
        refine lv_if_ne (tgt := 33) hx hb dX9_whyNotSettle_26 (by decide) (fun c_4 => ?_) (fun c_4 => ?_)
        · skip
          refine lv_aload_n hx hb dX9_whyNotSettle_33 rfl (lv_at hl 0 rfl) ?_
          refine lv_iload_n hx hb dX9_whyNotSettle_34 rfl (lv_at hl 1 rfl) ?_
          refine lv_iload_n hx hb dX9_whyNotSettle_35 rfl (lv_at hl 2 rfl) ?_
          refine lv_iload_n hx hb dX9_whyNotSettle_36 rfl (lv_at hl 3 rfl) ?_
          refine lv_iload hx hb dX9_whyNotSettle_37 (lv_at hl 4 rfl) ?_
          refine roS (wc := ([] : va_W)) (As := [.int x1, .int x2, .int x3, .int x4]) (rest := [.ref a0]) (c_X9_owedAt l D cy x1 x2 x3 x4) hCF gX9_whyNotSettle_X9_owedAt rfl hd_X9_owedAt ⟨rfl, rfl, Nat.le_of_ble_eq_true rfl, Nat.le_of_ble_eq_true rfl⟩ hG va_P_nil rfl hl.1 rfl (Nat.le_of_ble_eq_true rfl) dX9_whyNotSettle_39 ⟨Nat.le_refl _, Nat.le_refl _⟩ ?_
          refine va_iald hx hb hG.1 hP 0 0 (n := 383) (f := r) g_Ar_0 rfl (iv_in (iv_owedAt (iv_isHolder c_1) (iv_isHolder c_2) (iv_isKind c_3) (iv_isPart c_4)) (by decide) (by decide)) dX9_whyNotSettle_42 ?_
          refine lv_if_ne (tgt := 50) hx hb dX9_whyNotSettle_43 (by decide) (fun c_5 => ?_) (fun c_5 => ?_)
          · skip
            refine lv_iconst (v := (0 : Int32)) hx hb dX9_whyNotSettle_50 (by decide) ?_
            exact ro_iret hx hb hr hlocks dX9_whyNotSettle_51 (by rw [m_X9_whyNotSettle, if_neg c_1, if_neg c_2, if_neg c_3, if_neg c_4, if_neg c_5])
          · skip
            refine lv_iconst (v := (2 : Int32)) hx hb dX9_whyNotSettle_46 (by decide) ?_
            refine lv_goto (tgt := 51) hx hb dX9_whyNotSettle_47 (by decide) ?_
            exact ro_iret hx hb hr hlocks dX9_whyNotSettle_51 (by rw [m_X9_whyNotSettle, if_neg c_1, if_neg c_2, if_neg c_3, if_neg c_4, if_pos c_5])
        · skip
          refine lv_iconst (v := (1 : Int32)) hx hb dX9_whyNotSettle_29 (by decide) ?_
          refine lv_goto (tgt := 51) hx hb dX9_whyNotSettle_30 (by decide) ?_
          exact ro_iret hx hb hr hlocks dX9_whyNotSettle_51 (by rw [m_X9_whyNotSettle, if_neg c_1, if_neg c_2, if_neg c_3, if_pos c_4])
theorem wn_nn_Settle (r : Nat → Int32) (x1 x2 x3 x4 : Int32) : 0 ≤ (m_X9_whyNotSettle r x1 x2 x3 x4).toInt := by
  unfold m_X9_whyNotSettle
  repeat' split
  all_goals decide
theorem wn_Settle_0 {r : Nat → Int32} {x1 x2 x3 x4 : Int32} (hR : rOK r) (c : m_X9_whyNotSettle r x1 x2 x3 x4 = 0) : iv 0 4 x1 := by
  unfold m_X9_whyNotSettle at c
  split at c
  · exact absurd c (by decide)
  rename_i h0
  exact iv_isHolder h0
theorem wn_Settle_1 {r : Nat → Int32} {x1 x2 x3 x4 : Int32} (hR : rOK r) (c : m_X9_whyNotSettle r x1 x2 x3 x4 = 0) : iv 0 4 x2 := by
  unfold m_X9_whyNotSettle at c
  split at c
  · exact absurd c (by decide)
  rename_i h0
  split at c
  · exact absurd c (by decide)
  rename_i h1
  exact iv_isHolder h1
theorem wn_Settle_2 {r : Nat → Int32} {x1 x2 x3 x4 : Int32} (hR : rOK r) (c : m_X9_whyNotSettle r x1 x2 x3 x4 = 0) : iv 0 2 x3 := by
  unfold m_X9_whyNotSettle at c
  split at c
  · exact absurd c (by decide)
  rename_i h0
  split at c
  · exact absurd c (by decide)
  rename_i h1
  split at c
  · exact absurd c (by decide)
  rename_i h2
  exact iv_isKind h2
theorem wn_Settle_3 {r : Nat → Int32} {x1 x2 x3 x4 : Int32} (hR : rOK r) (c : m_X9_whyNotSettle r x1 x2 x3 x4 = 0) : iv 0 2 x4 := by
  unfold m_X9_whyNotSettle at c
  split at c
  · exact absurd c (by decide)
  rename_i h0
  split at c
  · exact absurd c (by decide)
  rename_i h1
  split at c
  · exact absurd c (by decide)
  rename_i h2
  split at c
  · exact absurd c (by decide)
  rename_i h3
  exact iv_isPart h3
def m_X9_settleOn (r : (Nat → Int32)) (x1 : Int32) (x2 : Int32) (x3 : Int32) (x4 : Int32) : Int32 × (Nat → Int32) := ((m_X9_pays (upd r (m_X9_owedAt x1 x2 x3 x4).toNatClampNeg ((r (m_X9_owedAt x1 x2 x3 x4).toNatClampNeg) - (1 : Int32))) x1 x2 ((upd r (m_X9_owedAt x1 x2 x3 x4).toNatClampNeg ((r (m_X9_owedAt x1 x2 x3 x4).toNatClampNeg) - (1 : Int32))) (4 : Int32).toNatClampNeg)) (m_X9_owedAt x1 x2 x3 x4).toNatClampNeg, m_X9_pays (upd r (m_X9_owedAt x1 x2 x3 x4).toNatClampNeg ((r (m_X9_owedAt x1 x2 x3 x4).toNatClampNeg) - (1 : Int32))) x1 x2 ((upd r (m_X9_owedAt x1 x2 x3 x4).toNatClampNeg ((r (m_X9_owedAt x1 x2 x3 x4).toNatClampNeg) - (1 : Int32))) (4 : Int32).toNatClampNeg))
theorem hd_X9_settleOn : yX9_settleOn.cls = RX9 ∧ yX9_settleOn.cls ≠ "java/lang/invoke/MethodHandle" ∧ yX9_settleOn.cls ≠ "java/lang/invoke/VarHandle" ∧ (parseMethodDescriptor yX9_settleOn.desc).map (fun d => d.parameters.length) = some 5 := by decide +kernel
set_option maxHeartbeats 8000000 in
set_option maxRecDepth 20000 in
theorem c_X9_settleOn (l : Launch) (D : va_G) (cy : Nat → ClassId) (a0 : Nat) (r : (Nat → Int32)) (x1 : Int32) (x2 : Int32) (x3 : Int32) (x4 : Int32) (h_x1 : iv 0 4 x1) (h_x2 : iv 0 4 x2) (h_x3 : iv 0 2 x3) (h_x4 : iv 0 2 x4) : MU l D cy yX9_settleOn wsX9_settleOn ({ frames := 1, cells := 0, slots := 0, locals := 23 } : Room) (wAr cy a0 r) (wAr cy a0 (m_X9_settleOn r x1 x2 x3 x4).2) [.ref a0, .int x1, .int x2, .int x3, .int x4] (m_X9_settleOn r x1 x2 x3 x4).1 := by
  refine MU.body (by decide) rfl (Nat.le_of_ble_eq_true rfl) ?_
  intro p e s m below meth c hx hb hml hr hts hown hlocks hP hG ls hl A hD hA hS
  have hl : lv_has ls 6 [(0, .ref a0), (1, .int x1), (2, .int x2), (3, .int x3), (4, .int x4)] := hl
  have hCF : CallFix p m c cX9_settleOn 6 s ([.ref a0, .int x1, .int x2, .int x3, .int x4] : List Value).toArray wsX9_settleOn RX9 := ⟨hx, hb, hml, hown, hts⟩
  have hP : va_P D vwCl (wAr cy a0 r) s.heap := hP
  refine lv_iload_n hx hb dX9_settleOn_0 rfl (lv_at hl 1 rfl) ?_
  refine lv_iload_n hx hb dX9_settleOn_1 rfl (lv_at hl 2 rfl) ?_
  refine lv_iload_n hx hb dX9_settleOn_2 rfl (lv_at hl 3 rfl) ?_
  refine lv_iload hx hb dX9_settleOn_3 (lv_at hl 4 rfl) ?_
  refine roS (wc := ([] : va_W)) (As := [.int x1, .int x2, .int x3, .int x4]) (rest := []) (c_X9_owedAt l D cy x1 x2 x3 x4) hCF gX9_settleOn_X9_owedAt rfl hd_X9_owedAt ⟨rfl, rfl, Nat.le_of_ble_eq_true rfl, Nat.le_of_ble_eq_true rfl⟩ hG va_P_nil rfl hl.1 rfl (Nat.le_of_ble_eq_true rfl) dX9_settleOn_5 ⟨Nat.le_refl _, Nat.le_refl _⟩ ?_
  refine lv_istore (lv' := [(5, .int (m_X9_owedAt x1 x2 x3 x4)), (0, .ref a0), (1, .int x1), (2, .int x2), (3, .int x3), (4, .int x4)]) hx hb dX9_settleOn_8 hl (by decide) rfl (fun ls hl => ?_)
  refine lv_aload_n hx hb dX9_settleOn_10 rfl (lv_at hl 1 rfl) ?_
  refine lv_iload hx hb dX9_settleOn_11 (lv_at hl 0 rfl) ?_
  refine lv_dup2_11 hx hb dX9_settleOn_13 rfl rfl ?_
  refine va_iald hx hb hG.1 hP 0 0 (n := 383) (f := r) g_Ar_0 rfl (iv_in (iv_owedAt h_x1 h_x2 h_x3 h_x4) (by decide) (by decide)) dX9_settleOn_14 ?_
  refine lv_iconst (v := (1 : Int32)) hx hb dX9_settleOn_15 (by decide) ?_
  refine lv_isub hx hb dX9_settleOn_16 ?_
  refine va_iast hx hb hG.1 hP hD hS 0 0 (n := 383) (f := r) g_Ar_0 rfl (iv_in (iv_owedAt h_x1 h_x2 h_x3 h_x4) (by decide) (by decide)) dX9_settleOn_17 (fun H locs hP hD hS => ?_)
  have hP : va_P D vwCl (wAr cy a0 (upd r (m_X9_owedAt x1 x2 x3 x4).toNatClampNeg ((r (m_X9_owedAt x1 x2 x3 x4).toNatClampNeg) - (1 : Int32)))) H := va_P_eq hP s_Ar_0
  have hD : va_D A (wAr cy a0 (upd r (m_X9_owedAt x1 x2 x3 x4).toNatClampNeg ((r (m_X9_owedAt x1 x2 x3 x4).toNatClampNeg) - (1 : Int32)))) := va_D_eq hD s_Ar_0
  refine lv_aload_n hx hb dX9_settleOn_18 rfl (lv_at hl 1 rfl) ?_
  refine lv_iload_n hx hb dX9_settleOn_19 rfl (lv_at hl 2 rfl) ?_
  refine lv_iload_n hx hb dX9_settleOn_20 rfl (lv_at hl 3 rfl) ?_
  refine lv_aload_n hx hb dX9_settleOn_21 rfl (lv_at hl 1 rfl) ?_
  refine lv_iconst (v := (4 : Int32)) hx hb dX9_settleOn_22 (by decide) ?_
  refine va_iald hx hb hG.1 hP 0 0 (n := 383) (f := (upd r (m_X9_owedAt x1 x2 x3 x4).toNatClampNeg ((r (m_X9_owedAt x1 x2 x3 x4).toNatClampNeg) - (1 : Int32)))) g_Ar_0 rfl (bd_of (by decide) (by decide)) dX9_settleOn_23 ?_
  refine mvS (A0 := A) (wc := (wAr cy a0 (upd r (m_X9_owedAt x1 x2 x3 x4).toNatClampNeg ((r (m_X9_owedAt x1 x2 x3 x4).toNatClampNeg) - (1 : Int32))))) (As := [.ref a0, .int x1, .int x2, .int ((upd r (m_X9_owedAt x1 x2 x3 x4).toNatClampNeg ((r (m_X9_owedAt x1 x2 x3 x4).toNatClampNeg) - (1 : Int32))) (4 : Int32).toNatClampNeg)]) (rest := []) (c_X9_pays l D cy a0 (upd r (m_X9_owedAt x1 x2 x3 x4).toNatClampNeg ((r (m_X9_owedAt x1 x2 x3 x4).toNatClampNeg) - (1 : Int32))) x1 x2 ((upd r (m_X9_owedAt x1 x2 x3 x4).toNatClampNeg ((r (m_X9_owedAt x1 x2 x3 x4).toNatClampNeg) - (1 : Int32))) (4 : Int32).toNatClampNeg) h_x1 h_x2) hCF gX9_settleOn_X9_pays rfl hd_X9_pays ⟨rfl, rfl, Nat.le_of_ble_eq_true rfl, Nat.le_of_ble_eq_true rfl⟩ hG hP hD hS hA [0] rfl c_Ar_Ar h_Ar rfl hl.1 rfl (Nat.le_of_ble_eq_true rfl) dX9_settleOn_24 ⟨Nat.le_refl _, Nat.le_refl _⟩ (fun H locs hP hD hS => ?_)
  have hP : va_P D vwCl (wAr cy a0 (m_X9_pays (upd r (m_X9_owedAt x1 x2 x3 x4).toNatClampNeg ((r (m_X9_owedAt x1 x2 x3 x4).toNatClampNeg) - (1 : Int32))) x1 x2 ((upd r (m_X9_owedAt x1 x2 x3 x4).toNatClampNeg ((r (m_X9_owedAt x1 x2 x3 x4).toNatClampNeg) - (1 : Int32))) (4 : Int32).toNatClampNeg))) H := va_P_eq hP r_Ar_Ar
  have hD : va_D A (wAr cy a0 (m_X9_pays (upd r (m_X9_owedAt x1 x2 x3 x4).toNatClampNeg ((r (m_X9_owedAt x1 x2 x3 x4).toNatClampNeg) - (1 : Int32))) x1 x2 ((upd r (m_X9_owedAt x1 x2 x3 x4).toNatClampNeg ((r (m_X9_owedAt x1 x2 x3 x4).toNatClampNeg) - (1 : Int32))) (4 : Int32).toNatClampNeg))) := va_D_eq hD r_Ar_Ar
  refine lv_aload_n hx hb dX9_settleOn_27 rfl (lv_at hl 1 rfl) ?_
  refine lv_iload hx hb dX9_settleOn_28 (lv_at hl 0 rfl) ?_
  refine va_iald hx hb hG.1 hP 0 0 (n := 383) (f := (m_X9_pays (upd r (m_X9_owedAt x1 x2 x3 x4).toNatClampNeg ((r (m_X9_owedAt x1 x2 x3 x4).toNatClampNeg) - (1 : Int32))) x1 x2 ((upd r (m_X9_owedAt x1 x2 x3 x4).toNatClampNeg ((r (m_X9_owedAt x1 x2 x3 x4).toNatClampNeg) - (1 : Int32))) (4 : Int32).toNatClampNeg))) g_Ar_0 rfl (iv_in (iv_owedAt h_x1 h_x2 h_x3 h_x4) (by decide) (by decide)) dX9_settleOn_30 ?_
  exact mu_iret hx hb hr hlocks hP hS dX9_settleOn_31 (by rw [m_X9_settleOn]) (by rw [m_X9_settleOn])
def m_X9_whyNotBuy (r : (Nat → Int32)) (x1 : Int32) (x2 : Int32) : Int32 := if (m_X9_isUnit r x1) = (0 : Int32) then (1 : Int32) else if (m_X9_isPart x2) = (0 : Int32) then (1 : Int32) else if (((m_X9_of r x1 (3 : Int32)) >>> (x2 &&& (31 : Int32))) &&& (1 : Int32)) = (1 : Int32) then (2 : Int32) else (0 : Int32)
theorem hd_X9_whyNotBuy : yX9_whyNotBuy.cls = RX9 ∧ yX9_whyNotBuy.cls ≠ "java/lang/invoke/MethodHandle" ∧ yX9_whyNotBuy.cls ≠ "java/lang/invoke/VarHandle" ∧ (parseMethodDescriptor yX9_whyNotBuy.desc).map (fun d => d.parameters.length) = some 3 := by decide +kernel
set_option maxHeartbeats 8000000 in
set_option maxRecDepth 20000 in
theorem c_X9_whyNotBuy (l : Launch) (D : va_G) (cy : Nat → ClassId) (a0 : Nat) (r : (Nat → Int32)) (x1 : Int32) (x2 : Int32) (hR : rOK r) : RO l D cy yX9_whyNotBuy wsX9_whyNotBuy ({ frames := 2, cells := 0, slots := 0, locals := 46 } : Room) (wAr cy a0 r) [.ref a0, .int x1, .int x2] (m_X9_whyNotBuy r x1 x2) := by
  refine RO.body (by decide) rfl (Nat.le_of_ble_eq_true rfl) ?_
  intro p e s m below meth c hx hb hml hr hts hown hlocks hP hG ls hl
  have hl : lv_has ls 3 [(0, .ref a0), (1, .int x1), (2, .int x2)] := hl
  have hCF : CallFix p m c cX9_whyNotBuy 3 s ([.ref a0, .int x1, .int x2] : List Value).toArray wsX9_whyNotBuy RX9 := ⟨hx, hb, hml, hown, hts⟩
  refine lv_aload_n hx hb dX9_whyNotBuy_0 rfl (lv_at hl 0 rfl) ?_
  refine lv_iload_n hx hb dX9_whyNotBuy_1 rfl (lv_at hl 1 rfl) ?_
  refine roS (wc := (wAr cy a0 r)) (As := [.ref a0, .int x1]) (rest := []) (c_X9_isUnit l D cy a0 r x1) hCF gX9_whyNotBuy_X9_isUnit rfl hd_X9_isUnit ⟨rfl, rfl, Nat.le_of_ble_eq_true rfl, Nat.le_of_ble_eq_true rfl⟩ hG hP rfl hl.1 rfl (Nat.le_of_ble_eq_true rfl) dX9_whyNotBuy_2 ⟨Nat.le_refl _, Nat.le_refl _⟩ ?_
  refine lv_if_eq (tgt := 15) hx hb dX9_whyNotBuy_5 (by decide) (fun c_1 => ?_) (fun c_1 => ?_)
  · skip
    refine lv_iconst (v := (1 : Int32)) hx hb dX9_whyNotBuy_15 (by decide) ?_
    refine lv_goto (tgt := 38) hx hb dX9_whyNotBuy_16 (by decide) ?_
    exact ro_iret hx hb hr hlocks dX9_whyNotBuy_38 (by rw [m_X9_whyNotBuy, if_pos c_1])
  · skip
    refine lv_iload_n hx hb dX9_whyNotBuy_8 rfl (lv_at hl 2 rfl) ?_
    refine roS (wc := ([] : va_W)) (As := [.int x2]) (rest := []) (c_X9_isPart l D cy x2) hCF gX9_whyNotBuy_X9_isPart rfl hd_X9_isPart ⟨rfl, rfl, Nat.le_of_ble_eq_true rfl, Nat.le_of_ble_eq_true rfl⟩ hG va_P_nil rfl hl.1 rfl (Nat.le_of_ble_eq_true rfl) dX9_whyNotBuy_9 ⟨Nat.le_refl _, Nat.le_refl _⟩ ?_
    refine lv_if_ne (tgt := 19) hx hb dX9_whyNotBuy_12 (by decide) (fun c_2 => ?_) (fun c_2 => ?_)
    · skip
      refine lv_aload_n hx hb dX9_whyNotBuy_19 rfl (lv_at hl 0 rfl) ?_
      refine lv_iload_n hx hb dX9_whyNotBuy_20 rfl (lv_at hl 1 rfl) ?_
      refine lv_iconst (v := (3 : Int32)) hx hb dX9_whyNotBuy_21 (by decide) ?_
      refine roS (wc := (wAr cy a0 r)) (As := [.ref a0, .int x1, .int (3 : Int32)]) (rest := []) (c_X9_of l D cy a0 r x1 (3 : Int32) (iv_isUnit hR c_1) (iv_wide (l2 := 0) (h2 := 4) (iv_lit (v := 3) (by decide)) (by decide))) hCF gX9_whyNotBuy_X9_of rfl hd_X9_of ⟨rfl, rfl, Nat.le_of_ble_eq_true rfl, Nat.le_of_ble_eq_true rfl⟩ hG hP rfl hl.1 rfl (Nat.le_of_ble_eq_true rfl) dX9_whyNotBuy_22 ⟨Nat.le_refl _, Nat.le_refl _⟩ ?_
      refine lv_iload_n hx hb dX9_whyNotBuy_25 rfl (lv_at hl 2 rfl) ?_
      refine lv_ishr hx hb dX9_whyNotBuy_26 ?_
      refine lv_iconst (v := (1 : Int32)) hx hb dX9_whyNotBuy_27 (by decide) ?_
      refine lv_iand hx hb dX9_whyNotBuy_28 ?_
      refine lv_iconst (v := (1 : Int32)) hx hb dX9_whyNotBuy_29 (by decide) ?_
      refine lv_icmp_ne (tgt := 37) hx hb dX9_whyNotBuy_30 (by decide) (fun c_3 => ?_) (fun c_3 => ?_)
      · skip
        refine lv_iconst (v := (0 : Int32)) hx hb dX9_whyNotBuy_37 (by decide) ?_
        exact ro_iret hx hb hr hlocks dX9_whyNotBuy_38 (by rw [m_X9_whyNotBuy, if_neg c_1, if_neg c_2, if_neg c_3])
      · skip
        refine lv_iconst (v := (2 : Int32)) hx hb dX9_whyNotBuy_33 (by decide) ?_
        refine lv_goto (tgt := 38) hx hb dX9_whyNotBuy_34 (by decide) ?_
        exact ro_iret hx hb hr hlocks dX9_whyNotBuy_38 (by rw [m_X9_whyNotBuy, if_neg c_1, if_neg c_2, if_pos c_3])
    · skip
      refine lv_iconst (v := (1 : Int32)) hx hb dX9_whyNotBuy_15 (by decide) ?_
      refine lv_goto (tgt := 38) hx hb dX9_whyNotBuy_16 (by decide) ?_
      exact ro_iret hx hb hr hlocks dX9_whyNotBuy_38 (by rw [m_X9_whyNotBuy, if_neg c_1, if_pos c_2])
theorem wn_nn_Buy (r : Nat → Int32) (x1 x2 : Int32) : 0 ≤ (m_X9_whyNotBuy r x1 x2).toInt := by
  unfold m_X9_whyNotBuy
  repeat' split
  all_goals decide
theorem wn_Buy_0 {r : Nat → Int32} {x1 x2 : Int32} (hR : rOK r) (c : m_X9_whyNotBuy r x1 x2 = 0) : iv 0 15 x1 := by
  unfold m_X9_whyNotBuy at c
  split at c
  · exact absurd c (by decide)
  rename_i h0
  exact iv_isUnit hR h0
theorem wn_Buy_1 {r : Nat → Int32} {x1 x2 : Int32} (hR : rOK r) (c : m_X9_whyNotBuy r x1 x2 = 0) : iv 0 2 x2 := by
  unfold m_X9_whyNotBuy at c
  split at c
  · exact absurd c (by decide)
  rename_i h0
  split at c
  · exact absurd c (by decide)
  rename_i h1
  exact iv_isPart h1
def m_X9_buyOn (r : (Nat → Int32)) (x1 : Int32) (x2 : Int32) : Int32 × (Nat → Int32) := (m_X9_of (upd (upd (m_X9_lay r x1 (3 : Int32) ((m_X9_of r x1 (3 : Int32)) ||| ((1 : Int32) <<< (x2 &&& (31 : Int32))))) ((88 : Int32) + (m_X9_of (m_X9_lay r x1 (3 : Int32) ((m_X9_of r x1 (3 : Int32)) ||| ((1 : Int32) <<< (x2 &&& (31 : Int32))))) x1 (1 : Int32))).toNatClampNeg (((m_X9_lay r x1 (3 : Int32) ((m_X9_of r x1 (3 : Int32)) ||| ((1 : Int32) <<< (x2 &&& (31 : Int32))))) ((88 : Int32) + (m_X9_of (m_X9_lay r x1 (3 : Int32) ((m_X9_of r x1 (3 : Int32)) ||| ((1 : Int32) <<< (x2 &&& (31 : Int32))))) x1 (1 : Int32))).toNatClampNeg) - ((m_X9_lay r x1 (3 : Int32) ((m_X9_of r x1 (3 : Int32)) ||| ((1 : Int32) <<< (x2 &&& (31 : Int32))))) (4 : Int32).toNatClampNeg))) (5 : Int32).toNatClampNeg (((upd (m_X9_lay r x1 (3 : Int32) ((m_X9_of r x1 (3 : Int32)) ||| ((1 : Int32) <<< (x2 &&& (31 : Int32))))) ((88 : Int32) + (m_X9_of (m_X9_lay r x1 (3 : Int32) ((m_X9_of r x1 (3 : Int32)) ||| ((1 : Int32) <<< (x2 &&& (31 : Int32))))) x1 (1 : Int32))).toNatClampNeg (((m_X9_lay r x1 (3 : Int32) ((m_X9_of r x1 (3 : Int32)) ||| ((1 : Int32) <<< (x2 &&& (31 : Int32))))) ((88 : Int32) + (m_X9_of (m_X9_lay r x1 (3 : Int32) ((m_X9_of r x1 (3 : Int32)) ||| ((1 : Int32) <<< (x2 &&& (31 : Int32))))) x1 (1 : Int32))).toNatClampNeg) - ((m_X9_lay r x1 (3 : Int32) ((m_X9_of r x1 (3 : Int32)) ||| ((1 : Int32) <<< (x2 &&& (31 : Int32))))) (4 : Int32).toNatClampNeg))) (5 : Int32).toNatClampNeg) + ((upd (m_X9_lay r x1 (3 : Int32) ((m_X9_of r x1 (3 : Int32)) ||| ((1 : Int32) <<< (x2 &&& (31 : Int32))))) ((88 : Int32) + (m_X9_of (m_X9_lay r x1 (3 : Int32) ((m_X9_of r x1 (3 : Int32)) ||| ((1 : Int32) <<< (x2 &&& (31 : Int32))))) x1 (1 : Int32))).toNatClampNeg (((m_X9_lay r x1 (3 : Int32) ((m_X9_of r x1 (3 : Int32)) ||| ((1 : Int32) <<< (x2 &&& (31 : Int32))))) ((88 : Int32) + (m_X9_of (m_X9_lay r x1 (3 : Int32) ((m_X9_of r x1 (3 : Int32)) ||| ((1 : Int32) <<< (x2 &&& (31 : Int32))))) x1 (1 : Int32))).toNatClampNeg) - ((m_X9_lay r x1 (3 : Int32) ((m_X9_of r x1 (3 : Int32)) ||| ((1 : Int32) <<< (x2 &&& (31 : Int32))))) (4 : Int32).toNatClampNeg))) (4 : Int32).toNatClampNeg))) x1 (3 : Int32), upd (upd (m_X9_lay r x1 (3 : Int32) ((m_X9_of r x1 (3 : Int32)) ||| ((1 : Int32) <<< (x2 &&& (31 : Int32))))) ((88 : Int32) + (m_X9_of (m_X9_lay r x1 (3 : Int32) ((m_X9_of r x1 (3 : Int32)) ||| ((1 : Int32) <<< (x2 &&& (31 : Int32))))) x1 (1 : Int32))).toNatClampNeg (((m_X9_lay r x1 (3 : Int32) ((m_X9_of r x1 (3 : Int32)) ||| ((1 : Int32) <<< (x2 &&& (31 : Int32))))) ((88 : Int32) + (m_X9_of (m_X9_lay r x1 (3 : Int32) ((m_X9_of r x1 (3 : Int32)) ||| ((1 : Int32) <<< (x2 &&& (31 : Int32))))) x1 (1 : Int32))).toNatClampNeg) - ((m_X9_lay r x1 (3 : Int32) ((m_X9_of r x1 (3 : Int32)) ||| ((1 : Int32) <<< (x2 &&& (31 : Int32))))) (4 : Int32).toNatClampNeg))) (5 : Int32).toNatClampNeg (((upd (m_X9_lay r x1 (3 : Int32) ((m_X9_of r x1 (3 : Int32)) ||| ((1 : Int32) <<< (x2 &&& (31 : Int32))))) ((88 : Int32) + (m_X9_of (m_X9_lay r x1 (3 : Int32) ((m_X9_of r x1 (3 : Int32)) ||| ((1 : Int32) <<< (x2 &&& (31 : Int32))))) x1 (1 : Int32))).toNatClampNeg (((m_X9_lay r x1 (3 : Int32) ((m_X9_of r x1 (3 : Int32)) ||| ((1 : Int32) <<< (x2 &&& (31 : Int32))))) ((88 : Int32) + (m_X9_of (m_X9_lay r x1 (3 : Int32) ((m_X9_of r x1 (3 : Int32)) ||| ((1 : Int32) <<< (x2 &&& (31 : Int32))))) x1 (1 : Int32))).toNatClampNeg) - ((m_X9_lay r x1 (3 : Int32) ((m_X9_of r x1 (3 : Int32)) ||| ((1 : Int32) <<< (x2 &&& (31 : Int32))))) (4 : Int32).toNatClampNeg))) (5 : Int32).toNatClampNeg) + ((upd (m_X9_lay r x1 (3 : Int32) ((m_X9_of r x1 (3 : Int32)) ||| ((1 : Int32) <<< (x2 &&& (31 : Int32))))) ((88 : Int32) + (m_X9_of (m_X9_lay r x1 (3 : Int32) ((m_X9_of r x1 (3 : Int32)) ||| ((1 : Int32) <<< (x2 &&& (31 : Int32))))) x1 (1 : Int32))).toNatClampNeg (((m_X9_lay r x1 (3 : Int32) ((m_X9_of r x1 (3 : Int32)) ||| ((1 : Int32) <<< (x2 &&& (31 : Int32))))) ((88 : Int32) + (m_X9_of (m_X9_lay r x1 (3 : Int32) ((m_X9_of r x1 (3 : Int32)) ||| ((1 : Int32) <<< (x2 &&& (31 : Int32))))) x1 (1 : Int32))).toNatClampNeg) - ((m_X9_lay r x1 (3 : Int32) ((m_X9_of r x1 (3 : Int32)) ||| ((1 : Int32) <<< (x2 &&& (31 : Int32))))) (4 : Int32).toNatClampNeg))) (4 : Int32).toNatClampNeg)))
theorem hd_X9_buyOn : yX9_buyOn.cls = RX9 ∧ yX9_buyOn.cls ≠ "java/lang/invoke/MethodHandle" ∧ yX9_buyOn.cls ≠ "java/lang/invoke/VarHandle" ∧ (parseMethodDescriptor yX9_buyOn.desc).map (fun d => d.parameters.length) = some 3 := by decide +kernel
set_option maxHeartbeats 8000000 in
set_option maxRecDepth 20000 in
theorem c_X9_buyOn (l : Launch) (D : va_G) (cy : Nat → ClassId) (a0 : Nat) (r : (Nat → Int32)) (x1 : Int32) (x2 : Int32) (hR : rOK r) (h_x1 : iv 0 15 x1) (h_x2 : iv 0 2 x2) : MU l D cy yX9_buyOn wsX9_buyOn ({ frames := 1, cells := 0, slots := 0, locals := 23 } : Room) (wAr cy a0 r) (wAr cy a0 (m_X9_buyOn r x1 x2).2) [.ref a0, .int x1, .int x2] (m_X9_buyOn r x1 x2).1 := by
  refine MU.body (by decide) rfl (Nat.le_of_ble_eq_true rfl) ?_
  intro p e s m below meth c hx hb hml hr hts hown hlocks hP hG ls hl A hD hA hS
  have hl : lv_has ls 3 [(0, .ref a0), (1, .int x1), (2, .int x2)] := hl
  have hCF : CallFix p m c cX9_buyOn 3 s ([.ref a0, .int x1, .int x2] : List Value).toArray wsX9_buyOn RX9 := ⟨hx, hb, hml, hown, hts⟩
  have hP : va_P D vwCl (wAr cy a0 r) s.heap := hP
  refine lv_aload_n hx hb dX9_buyOn_0 rfl (lv_at hl 0 rfl) ?_
  refine lv_iload_n hx hb dX9_buyOn_1 rfl (lv_at hl 1 rfl) ?_
  refine lv_iconst (v := (3 : Int32)) hx hb dX9_buyOn_2 (by decide) ?_
  refine lv_aload_n hx hb dX9_buyOn_3 rfl (lv_at hl 0 rfl) ?_
  refine lv_iload_n hx hb dX9_buyOn_4 rfl (lv_at hl 1 rfl) ?_
  refine lv_iconst (v := (3 : Int32)) hx hb dX9_buyOn_5 (by decide) ?_
  refine roS (wc := (wAr cy a0 r)) (As := [.ref a0, .int x1, .int (3 : Int32)]) (rest := [.int (3 : Int32), .int x1, .ref a0]) (c_X9_of l D cy a0 r x1 (3 : Int32) h_x1 (iv_wide (l2 := 0) (h2 := 4) (iv_lit (v := 3) (by decide)) (by decide))) hCF gX9_buyOn_X9_of rfl hd_X9_of ⟨rfl, rfl, Nat.le_of_ble_eq_true rfl, Nat.le_of_ble_eq_true rfl⟩ hG hP rfl hl.1 rfl (Nat.le_of_ble_eq_true rfl) dX9_buyOn_6 ⟨Nat.le_refl _, Nat.le_refl _⟩ ?_
  refine lv_iconst (v := (1 : Int32)) hx hb dX9_buyOn_9 (by decide) ?_
  refine lv_iload_n hx hb dX9_buyOn_10 rfl (lv_at hl 2 rfl) ?_
  refine lv_ishl hx hb dX9_buyOn_11 ?_
  refine lv_ior hx hb dX9_buyOn_12 ?_
  refine mvS (A0 := A) (wc := (wAr cy a0 r)) (As := [.ref a0, .int x1, .int (3 : Int32), .int ((m_X9_of r x1 (3 : Int32)) ||| ((1 : Int32) <<< (x2 &&& (31 : Int32))))]) (rest := []) (c_X9_lay l D cy a0 r x1 (3 : Int32) ((m_X9_of r x1 (3 : Int32)) ||| ((1 : Int32) <<< (x2 &&& (31 : Int32)))) h_x1 (iv_wide (l2 := 0) (h2 := 4) (iv_lit (v := 3) (by decide)) (by decide))) hCF gX9_buyOn_X9_lay rfl hd_X9_lay ⟨rfl, rfl, Nat.le_of_ble_eq_true rfl, Nat.le_of_ble_eq_true rfl⟩ hG hP hD hS hA [0] rfl c_Ar_Ar h_Ar rfl hl.1 rfl (Nat.le_of_ble_eq_true rfl) dX9_buyOn_13 ⟨Nat.le_refl _, Nat.le_refl _⟩ (fun H locs hP hD hS => ?_)
  have hP : va_P D vwCl (wAr cy a0 (m_X9_lay r x1 (3 : Int32) ((m_X9_of r x1 (3 : Int32)) ||| ((1 : Int32) <<< (x2 &&& (31 : Int32)))))) H := va_P_eq hP r_Ar_Ar
  have hD : va_D A (wAr cy a0 (m_X9_lay r x1 (3 : Int32) ((m_X9_of r x1 (3 : Int32)) ||| ((1 : Int32) <<< (x2 &&& (31 : Int32)))))) := va_D_eq hD r_Ar_Ar
  refine lv_aload_n hx hb dX9_buyOn_16 rfl (lv_at hl 0 rfl) ?_
  refine lv_bipush (v := (88 : Int32)) hx hb dX9_buyOn_17 (by decide) ?_
  refine lv_aload_n hx hb dX9_buyOn_19 rfl (lv_at hl 0 rfl) ?_
  refine lv_iload_n hx hb dX9_buyOn_20 rfl (lv_at hl 1 rfl) ?_
  refine lv_iconst (v := (1 : Int32)) hx hb dX9_buyOn_21 (by decide) ?_
  refine roS (wc := (wAr cy a0 (m_X9_lay r x1 (3 : Int32) ((m_X9_of r x1 (3 : Int32)) ||| ((1 : Int32) <<< (x2 &&& (31 : Int32))))))) (As := [.ref a0, .int x1, .int (1 : Int32)]) (rest := [.int (88 : Int32), .ref a0]) (c_X9_of l D cy a0 (m_X9_lay r x1 (3 : Int32) ((m_X9_of r x1 (3 : Int32)) ||| ((1 : Int32) <<< (x2 &&& (31 : Int32))))) x1 (1 : Int32) h_x1 (iv_wide (l2 := 0) (h2 := 4) (iv_lit (v := 1) (by decide)) (by decide))) hCF gX9_buyOn_X9_of rfl hd_X9_of ⟨rfl, rfl, Nat.le_of_ble_eq_true rfl, Nat.le_of_ble_eq_true rfl⟩ hG hP rfl hl.1 rfl (Nat.le_of_ble_eq_true rfl) dX9_buyOn_22 ⟨Nat.le_refl _, Nat.le_refl _⟩ ?_
  refine lv_iadd hx hb dX9_buyOn_25 ?_
  refine lv_dup2_11 hx hb dX9_buyOn_26 rfl rfl ?_
  refine va_iald hx hb hG.1 hP 0 0 (n := 383) (f := (m_X9_lay r x1 (3 : Int32) ((m_X9_of r x1 (3 : Int32)) ||| ((1 : Int32) <<< (x2 &&& (31 : Int32)))))) g_Ar_0 rfl (iv_in (iv_add (l := 88) (h := 92) (iv_lit (v := 88) (by decide)) (rk_of1 (rok_lay3 hR h_x1 (iv_or7 (rk_of3 hR h_x1) h_x2)) h_x1) (by decide)) (by decide) (by decide)) dX9_buyOn_27 ?_
  refine lv_aload_n hx hb dX9_buyOn_28 rfl (lv_at hl 0 rfl) ?_
  refine lv_iconst (v := (4 : Int32)) hx hb dX9_buyOn_29 (by decide) ?_
  refine va_iald hx hb hG.1 hP 0 0 (n := 383) (f := (m_X9_lay r x1 (3 : Int32) ((m_X9_of r x1 (3 : Int32)) ||| ((1 : Int32) <<< (x2 &&& (31 : Int32)))))) g_Ar_0 rfl (bd_of (by decide) (by decide)) dX9_buyOn_30 ?_
  refine lv_isub hx hb dX9_buyOn_31 ?_
  refine va_iast hx hb hG.1 hP hD hS 0 0 (n := 383) (f := (m_X9_lay r x1 (3 : Int32) ((m_X9_of r x1 (3 : Int32)) ||| ((1 : Int32) <<< (x2 &&& (31 : Int32)))))) g_Ar_0 rfl (iv_in (iv_add (l := 88) (h := 92) (iv_lit (v := 88) (by decide)) (rk_of1 (rok_lay3 hR h_x1 (iv_or7 (rk_of3 hR h_x1) h_x2)) h_x1) (by decide)) (by decide) (by decide)) dX9_buyOn_32 (fun H locs hP hD hS => ?_)
  have hP : va_P D vwCl (wAr cy a0 (upd (m_X9_lay r x1 (3 : Int32) ((m_X9_of r x1 (3 : Int32)) ||| ((1 : Int32) <<< (x2 &&& (31 : Int32))))) ((88 : Int32) + (m_X9_of (m_X9_lay r x1 (3 : Int32) ((m_X9_of r x1 (3 : Int32)) ||| ((1 : Int32) <<< (x2 &&& (31 : Int32))))) x1 (1 : Int32))).toNatClampNeg (((m_X9_lay r x1 (3 : Int32) ((m_X9_of r x1 (3 : Int32)) ||| ((1 : Int32) <<< (x2 &&& (31 : Int32))))) ((88 : Int32) + (m_X9_of (m_X9_lay r x1 (3 : Int32) ((m_X9_of r x1 (3 : Int32)) ||| ((1 : Int32) <<< (x2 &&& (31 : Int32))))) x1 (1 : Int32))).toNatClampNeg) - ((m_X9_lay r x1 (3 : Int32) ((m_X9_of r x1 (3 : Int32)) ||| ((1 : Int32) <<< (x2 &&& (31 : Int32))))) (4 : Int32).toNatClampNeg)))) H := va_P_eq hP s_Ar_0
  have hD : va_D A (wAr cy a0 (upd (m_X9_lay r x1 (3 : Int32) ((m_X9_of r x1 (3 : Int32)) ||| ((1 : Int32) <<< (x2 &&& (31 : Int32))))) ((88 : Int32) + (m_X9_of (m_X9_lay r x1 (3 : Int32) ((m_X9_of r x1 (3 : Int32)) ||| ((1 : Int32) <<< (x2 &&& (31 : Int32))))) x1 (1 : Int32))).toNatClampNeg (((m_X9_lay r x1 (3 : Int32) ((m_X9_of r x1 (3 : Int32)) ||| ((1 : Int32) <<< (x2 &&& (31 : Int32))))) ((88 : Int32) + (m_X9_of (m_X9_lay r x1 (3 : Int32) ((m_X9_of r x1 (3 : Int32)) ||| ((1 : Int32) <<< (x2 &&& (31 : Int32))))) x1 (1 : Int32))).toNatClampNeg) - ((m_X9_lay r x1 (3 : Int32) ((m_X9_of r x1 (3 : Int32)) ||| ((1 : Int32) <<< (x2 &&& (31 : Int32))))) (4 : Int32).toNatClampNeg)))) := va_D_eq hD s_Ar_0
  refine lv_aload_n hx hb dX9_buyOn_33 rfl (lv_at hl 0 rfl) ?_
  refine lv_iconst (v := (5 : Int32)) hx hb dX9_buyOn_34 (by decide) ?_
  refine lv_dup2_11 hx hb dX9_buyOn_35 rfl rfl ?_
  refine va_iald hx hb hG.1 hP 0 0 (n := 383) (f := (upd (m_X9_lay r x1 (3 : Int32) ((m_X9_of r x1 (3 : Int32)) ||| ((1 : Int32) <<< (x2 &&& (31 : Int32))))) ((88 : Int32) + (m_X9_of (m_X9_lay r x1 (3 : Int32) ((m_X9_of r x1 (3 : Int32)) ||| ((1 : Int32) <<< (x2 &&& (31 : Int32))))) x1 (1 : Int32))).toNatClampNeg (((m_X9_lay r x1 (3 : Int32) ((m_X9_of r x1 (3 : Int32)) ||| ((1 : Int32) <<< (x2 &&& (31 : Int32))))) ((88 : Int32) + (m_X9_of (m_X9_lay r x1 (3 : Int32) ((m_X9_of r x1 (3 : Int32)) ||| ((1 : Int32) <<< (x2 &&& (31 : Int32))))) x1 (1 : Int32))).toNatClampNeg) - ((m_X9_lay r x1 (3 : Int32) ((m_X9_of r x1 (3 : Int32)) ||| ((1 : Int32) <<< (x2 &&& (31 : Int32))))) (4 : Int32).toNatClampNeg)))) g_Ar_0 rfl (bd_of (by decide) (by decide)) dX9_buyOn_36 ?_
  refine lv_aload_n hx hb dX9_buyOn_37 rfl (lv_at hl 0 rfl) ?_
  refine lv_iconst (v := (4 : Int32)) hx hb dX9_buyOn_38 (by decide) ?_
  refine va_iald hx hb hG.1 hP 0 0 (n := 383) (f := (upd (m_X9_lay r x1 (3 : Int32) ((m_X9_of r x1 (3 : Int32)) ||| ((1 : Int32) <<< (x2 &&& (31 : Int32))))) ((88 : Int32) + (m_X9_of (m_X9_lay r x1 (3 : Int32) ((m_X9_of r x1 (3 : Int32)) ||| ((1 : Int32) <<< (x2 &&& (31 : Int32))))) x1 (1 : Int32))).toNatClampNeg (((m_X9_lay r x1 (3 : Int32) ((m_X9_of r x1 (3 : Int32)) ||| ((1 : Int32) <<< (x2 &&& (31 : Int32))))) ((88 : Int32) + (m_X9_of (m_X9_lay r x1 (3 : Int32) ((m_X9_of r x1 (3 : Int32)) ||| ((1 : Int32) <<< (x2 &&& (31 : Int32))))) x1 (1 : Int32))).toNatClampNeg) - ((m_X9_lay r x1 (3 : Int32) ((m_X9_of r x1 (3 : Int32)) ||| ((1 : Int32) <<< (x2 &&& (31 : Int32))))) (4 : Int32).toNatClampNeg)))) g_Ar_0 rfl (bd_of (by decide) (by decide)) dX9_buyOn_39 ?_
  refine lv_iadd hx hb dX9_buyOn_40 ?_
  refine va_iast hx hb hG.1 hP hD hS 0 0 (n := 383) (f := (upd (m_X9_lay r x1 (3 : Int32) ((m_X9_of r x1 (3 : Int32)) ||| ((1 : Int32) <<< (x2 &&& (31 : Int32))))) ((88 : Int32) + (m_X9_of (m_X9_lay r x1 (3 : Int32) ((m_X9_of r x1 (3 : Int32)) ||| ((1 : Int32) <<< (x2 &&& (31 : Int32))))) x1 (1 : Int32))).toNatClampNeg (((m_X9_lay r x1 (3 : Int32) ((m_X9_of r x1 (3 : Int32)) ||| ((1 : Int32) <<< (x2 &&& (31 : Int32))))) ((88 : Int32) + (m_X9_of (m_X9_lay r x1 (3 : Int32) ((m_X9_of r x1 (3 : Int32)) ||| ((1 : Int32) <<< (x2 &&& (31 : Int32))))) x1 (1 : Int32))).toNatClampNeg) - ((m_X9_lay r x1 (3 : Int32) ((m_X9_of r x1 (3 : Int32)) ||| ((1 : Int32) <<< (x2 &&& (31 : Int32))))) (4 : Int32).toNatClampNeg)))) g_Ar_0 rfl (bd_of (by decide) (by decide)) dX9_buyOn_41 (fun H locs hP hD hS => ?_)
  have hP : va_P D vwCl (wAr cy a0 (upd (upd (m_X9_lay r x1 (3 : Int32) ((m_X9_of r x1 (3 : Int32)) ||| ((1 : Int32) <<< (x2 &&& (31 : Int32))))) ((88 : Int32) + (m_X9_of (m_X9_lay r x1 (3 : Int32) ((m_X9_of r x1 (3 : Int32)) ||| ((1 : Int32) <<< (x2 &&& (31 : Int32))))) x1 (1 : Int32))).toNatClampNeg (((m_X9_lay r x1 (3 : Int32) ((m_X9_of r x1 (3 : Int32)) ||| ((1 : Int32) <<< (x2 &&& (31 : Int32))))) ((88 : Int32) + (m_X9_of (m_X9_lay r x1 (3 : Int32) ((m_X9_of r x1 (3 : Int32)) ||| ((1 : Int32) <<< (x2 &&& (31 : Int32))))) x1 (1 : Int32))).toNatClampNeg) - ((m_X9_lay r x1 (3 : Int32) ((m_X9_of r x1 (3 : Int32)) ||| ((1 : Int32) <<< (x2 &&& (31 : Int32))))) (4 : Int32).toNatClampNeg))) (5 : Int32).toNatClampNeg (((upd (m_X9_lay r x1 (3 : Int32) ((m_X9_of r x1 (3 : Int32)) ||| ((1 : Int32) <<< (x2 &&& (31 : Int32))))) ((88 : Int32) + (m_X9_of (m_X9_lay r x1 (3 : Int32) ((m_X9_of r x1 (3 : Int32)) ||| ((1 : Int32) <<< (x2 &&& (31 : Int32))))) x1 (1 : Int32))).toNatClampNeg (((m_X9_lay r x1 (3 : Int32) ((m_X9_of r x1 (3 : Int32)) ||| ((1 : Int32) <<< (x2 &&& (31 : Int32))))) ((88 : Int32) + (m_X9_of (m_X9_lay r x1 (3 : Int32) ((m_X9_of r x1 (3 : Int32)) ||| ((1 : Int32) <<< (x2 &&& (31 : Int32))))) x1 (1 : Int32))).toNatClampNeg) - ((m_X9_lay r x1 (3 : Int32) ((m_X9_of r x1 (3 : Int32)) ||| ((1 : Int32) <<< (x2 &&& (31 : Int32))))) (4 : Int32).toNatClampNeg))) (5 : Int32).toNatClampNeg) + ((upd (m_X9_lay r x1 (3 : Int32) ((m_X9_of r x1 (3 : Int32)) ||| ((1 : Int32) <<< (x2 &&& (31 : Int32))))) ((88 : Int32) + (m_X9_of (m_X9_lay r x1 (3 : Int32) ((m_X9_of r x1 (3 : Int32)) ||| ((1 : Int32) <<< (x2 &&& (31 : Int32))))) x1 (1 : Int32))).toNatClampNeg (((m_X9_lay r x1 (3 : Int32) ((m_X9_of r x1 (3 : Int32)) ||| ((1 : Int32) <<< (x2 &&& (31 : Int32))))) ((88 : Int32) + (m_X9_of (m_X9_lay r x1 (3 : Int32) ((m_X9_of r x1 (3 : Int32)) ||| ((1 : Int32) <<< (x2 &&& (31 : Int32))))) x1 (1 : Int32))).toNatClampNeg) - ((m_X9_lay r x1 (3 : Int32) ((m_X9_of r x1 (3 : Int32)) ||| ((1 : Int32) <<< (x2 &&& (31 : Int32))))) (4 : Int32).toNatClampNeg))) (4 : Int32).toNatClampNeg)))) H := va_P_eq hP s_Ar_0
  have hD : va_D A (wAr cy a0 (upd (upd (m_X9_lay r x1 (3 : Int32) ((m_X9_of r x1 (3 : Int32)) ||| ((1 : Int32) <<< (x2 &&& (31 : Int32))))) ((88 : Int32) + (m_X9_of (m_X9_lay r x1 (3 : Int32) ((m_X9_of r x1 (3 : Int32)) ||| ((1 : Int32) <<< (x2 &&& (31 : Int32))))) x1 (1 : Int32))).toNatClampNeg (((m_X9_lay r x1 (3 : Int32) ((m_X9_of r x1 (3 : Int32)) ||| ((1 : Int32) <<< (x2 &&& (31 : Int32))))) ((88 : Int32) + (m_X9_of (m_X9_lay r x1 (3 : Int32) ((m_X9_of r x1 (3 : Int32)) ||| ((1 : Int32) <<< (x2 &&& (31 : Int32))))) x1 (1 : Int32))).toNatClampNeg) - ((m_X9_lay r x1 (3 : Int32) ((m_X9_of r x1 (3 : Int32)) ||| ((1 : Int32) <<< (x2 &&& (31 : Int32))))) (4 : Int32).toNatClampNeg))) (5 : Int32).toNatClampNeg (((upd (m_X9_lay r x1 (3 : Int32) ((m_X9_of r x1 (3 : Int32)) ||| ((1 : Int32) <<< (x2 &&& (31 : Int32))))) ((88 : Int32) + (m_X9_of (m_X9_lay r x1 (3 : Int32) ((m_X9_of r x1 (3 : Int32)) ||| ((1 : Int32) <<< (x2 &&& (31 : Int32))))) x1 (1 : Int32))).toNatClampNeg (((m_X9_lay r x1 (3 : Int32) ((m_X9_of r x1 (3 : Int32)) ||| ((1 : Int32) <<< (x2 &&& (31 : Int32))))) ((88 : Int32) + (m_X9_of (m_X9_lay r x1 (3 : Int32) ((m_X9_of r x1 (3 : Int32)) ||| ((1 : Int32) <<< (x2 &&& (31 : Int32))))) x1 (1 : Int32))).toNatClampNeg) - ((m_X9_lay r x1 (3 : Int32) ((m_X9_of r x1 (3 : Int32)) ||| ((1 : Int32) <<< (x2 &&& (31 : Int32))))) (4 : Int32).toNatClampNeg))) (5 : Int32).toNatClampNeg) + ((upd (m_X9_lay r x1 (3 : Int32) ((m_X9_of r x1 (3 : Int32)) ||| ((1 : Int32) <<< (x2 &&& (31 : Int32))))) ((88 : Int32) + (m_X9_of (m_X9_lay r x1 (3 : Int32) ((m_X9_of r x1 (3 : Int32)) ||| ((1 : Int32) <<< (x2 &&& (31 : Int32))))) x1 (1 : Int32))).toNatClampNeg (((m_X9_lay r x1 (3 : Int32) ((m_X9_of r x1 (3 : Int32)) ||| ((1 : Int32) <<< (x2 &&& (31 : Int32))))) ((88 : Int32) + (m_X9_of (m_X9_lay r x1 (3 : Int32) ((m_X9_of r x1 (3 : Int32)) ||| ((1 : Int32) <<< (x2 &&& (31 : Int32))))) x1 (1 : Int32))).toNatClampNeg) - ((m_X9_lay r x1 (3 : Int32) ((m_X9_of r x1 (3 : Int32)) ||| ((1 : Int32) <<< (x2 &&& (31 : Int32))))) (4 : Int32).toNatClampNeg))) (4 : Int32).toNatClampNeg)))) := va_D_eq hD s_Ar_0
  refine lv_aload_n hx hb dX9_buyOn_42 rfl (lv_at hl 0 rfl) ?_
  refine lv_iload_n hx hb dX9_buyOn_43 rfl (lv_at hl 1 rfl) ?_
  refine lv_iconst (v := (3 : Int32)) hx hb dX9_buyOn_44 (by decide) ?_
  refine roS (wc := (wAr cy a0 (upd (upd (m_X9_lay r x1 (3 : Int32) ((m_X9_of r x1 (3 : Int32)) ||| ((1 : Int32) <<< (x2 &&& (31 : Int32))))) ((88 : Int32) + (m_X9_of (m_X9_lay r x1 (3 : Int32) ((m_X9_of r x1 (3 : Int32)) ||| ((1 : Int32) <<< (x2 &&& (31 : Int32))))) x1 (1 : Int32))).toNatClampNeg (((m_X9_lay r x1 (3 : Int32) ((m_X9_of r x1 (3 : Int32)) ||| ((1 : Int32) <<< (x2 &&& (31 : Int32))))) ((88 : Int32) + (m_X9_of (m_X9_lay r x1 (3 : Int32) ((m_X9_of r x1 (3 : Int32)) ||| ((1 : Int32) <<< (x2 &&& (31 : Int32))))) x1 (1 : Int32))).toNatClampNeg) - ((m_X9_lay r x1 (3 : Int32) ((m_X9_of r x1 (3 : Int32)) ||| ((1 : Int32) <<< (x2 &&& (31 : Int32))))) (4 : Int32).toNatClampNeg))) (5 : Int32).toNatClampNeg (((upd (m_X9_lay r x1 (3 : Int32) ((m_X9_of r x1 (3 : Int32)) ||| ((1 : Int32) <<< (x2 &&& (31 : Int32))))) ((88 : Int32) + (m_X9_of (m_X9_lay r x1 (3 : Int32) ((m_X9_of r x1 (3 : Int32)) ||| ((1 : Int32) <<< (x2 &&& (31 : Int32))))) x1 (1 : Int32))).toNatClampNeg (((m_X9_lay r x1 (3 : Int32) ((m_X9_of r x1 (3 : Int32)) ||| ((1 : Int32) <<< (x2 &&& (31 : Int32))))) ((88 : Int32) + (m_X9_of (m_X9_lay r x1 (3 : Int32) ((m_X9_of r x1 (3 : Int32)) ||| ((1 : Int32) <<< (x2 &&& (31 : Int32))))) x1 (1 : Int32))).toNatClampNeg) - ((m_X9_lay r x1 (3 : Int32) ((m_X9_of r x1 (3 : Int32)) ||| ((1 : Int32) <<< (x2 &&& (31 : Int32))))) (4 : Int32).toNatClampNeg))) (5 : Int32).toNatClampNeg) + ((upd (m_X9_lay r x1 (3 : Int32) ((m_X9_of r x1 (3 : Int32)) ||| ((1 : Int32) <<< (x2 &&& (31 : Int32))))) ((88 : Int32) + (m_X9_of (m_X9_lay r x1 (3 : Int32) ((m_X9_of r x1 (3 : Int32)) ||| ((1 : Int32) <<< (x2 &&& (31 : Int32))))) x1 (1 : Int32))).toNatClampNeg (((m_X9_lay r x1 (3 : Int32) ((m_X9_of r x1 (3 : Int32)) ||| ((1 : Int32) <<< (x2 &&& (31 : Int32))))) ((88 : Int32) + (m_X9_of (m_X9_lay r x1 (3 : Int32) ((m_X9_of r x1 (3 : Int32)) ||| ((1 : Int32) <<< (x2 &&& (31 : Int32))))) x1 (1 : Int32))).toNatClampNeg) - ((m_X9_lay r x1 (3 : Int32) ((m_X9_of r x1 (3 : Int32)) ||| ((1 : Int32) <<< (x2 &&& (31 : Int32))))) (4 : Int32).toNatClampNeg))) (4 : Int32).toNatClampNeg))))) (As := [.ref a0, .int x1, .int (3 : Int32)]) (rest := []) (c_X9_of l D cy a0 (upd (upd (m_X9_lay r x1 (3 : Int32) ((m_X9_of r x1 (3 : Int32)) ||| ((1 : Int32) <<< (x2 &&& (31 : Int32))))) ((88 : Int32) + (m_X9_of (m_X9_lay r x1 (3 : Int32) ((m_X9_of r x1 (3 : Int32)) ||| ((1 : Int32) <<< (x2 &&& (31 : Int32))))) x1 (1 : Int32))).toNatClampNeg (((m_X9_lay r x1 (3 : Int32) ((m_X9_of r x1 (3 : Int32)) ||| ((1 : Int32) <<< (x2 &&& (31 : Int32))))) ((88 : Int32) + (m_X9_of (m_X9_lay r x1 (3 : Int32) ((m_X9_of r x1 (3 : Int32)) ||| ((1 : Int32) <<< (x2 &&& (31 : Int32))))) x1 (1 : Int32))).toNatClampNeg) - ((m_X9_lay r x1 (3 : Int32) ((m_X9_of r x1 (3 : Int32)) ||| ((1 : Int32) <<< (x2 &&& (31 : Int32))))) (4 : Int32).toNatClampNeg))) (5 : Int32).toNatClampNeg (((upd (m_X9_lay r x1 (3 : Int32) ((m_X9_of r x1 (3 : Int32)) ||| ((1 : Int32) <<< (x2 &&& (31 : Int32))))) ((88 : Int32) + (m_X9_of (m_X9_lay r x1 (3 : Int32) ((m_X9_of r x1 (3 : Int32)) ||| ((1 : Int32) <<< (x2 &&& (31 : Int32))))) x1 (1 : Int32))).toNatClampNeg (((m_X9_lay r x1 (3 : Int32) ((m_X9_of r x1 (3 : Int32)) ||| ((1 : Int32) <<< (x2 &&& (31 : Int32))))) ((88 : Int32) + (m_X9_of (m_X9_lay r x1 (3 : Int32) ((m_X9_of r x1 (3 : Int32)) ||| ((1 : Int32) <<< (x2 &&& (31 : Int32))))) x1 (1 : Int32))).toNatClampNeg) - ((m_X9_lay r x1 (3 : Int32) ((m_X9_of r x1 (3 : Int32)) ||| ((1 : Int32) <<< (x2 &&& (31 : Int32))))) (4 : Int32).toNatClampNeg))) (5 : Int32).toNatClampNeg) + ((upd (m_X9_lay r x1 (3 : Int32) ((m_X9_of r x1 (3 : Int32)) ||| ((1 : Int32) <<< (x2 &&& (31 : Int32))))) ((88 : Int32) + (m_X9_of (m_X9_lay r x1 (3 : Int32) ((m_X9_of r x1 (3 : Int32)) ||| ((1 : Int32) <<< (x2 &&& (31 : Int32))))) x1 (1 : Int32))).toNatClampNeg (((m_X9_lay r x1 (3 : Int32) ((m_X9_of r x1 (3 : Int32)) ||| ((1 : Int32) <<< (x2 &&& (31 : Int32))))) ((88 : Int32) + (m_X9_of (m_X9_lay r x1 (3 : Int32) ((m_X9_of r x1 (3 : Int32)) ||| ((1 : Int32) <<< (x2 &&& (31 : Int32))))) x1 (1 : Int32))).toNatClampNeg) - ((m_X9_lay r x1 (3 : Int32) ((m_X9_of r x1 (3 : Int32)) ||| ((1 : Int32) <<< (x2 &&& (31 : Int32))))) (4 : Int32).toNatClampNeg))) (4 : Int32).toNatClampNeg))) x1 (3 : Int32) h_x1 (iv_wide (l2 := 0) (h2 := 4) (iv_lit (v := 3) (by decide)) (by decide))) hCF gX9_buyOn_X9_of rfl hd_X9_of ⟨rfl, rfl, Nat.le_of_ble_eq_true rfl, Nat.le_of_ble_eq_true rfl⟩ hG hP rfl hl.1 rfl (Nat.le_of_ble_eq_true rfl) dX9_buyOn_45 ⟨Nat.le_refl _, Nat.le_refl _⟩ ?_
  exact mu_iret hx hb hr hlocks hP hS dX9_buyOn_48 (by rw [m_X9_buyOn]) (by rw [m_X9_buyOn])
def m_X9_daysOn (r : (Nat → Int32)) (x1 : Int32) : Int32 × (Nat → Int32) := ((upd r (0 : Int32).toNatClampNeg ((r (0 : Int32).toNatClampNeg) + x1)) (0 : Int32).toNatClampNeg, upd r (0 : Int32).toNatClampNeg ((r (0 : Int32).toNatClampNeg) + x1))
theorem hd_X9_daysOn : yX9_daysOn.cls = RX9 ∧ yX9_daysOn.cls ≠ "java/lang/invoke/MethodHandle" ∧ yX9_daysOn.cls ≠ "java/lang/invoke/VarHandle" ∧ (parseMethodDescriptor yX9_daysOn.desc).map (fun d => d.parameters.length) = some 2 := by decide +kernel
set_option maxHeartbeats 8000000 in
set_option maxRecDepth 20000 in
theorem c_X9_daysOn (l : Launch) (D : va_G) (cy : Nat → ClassId) (a0 : Nat) (r : (Nat → Int32)) (x1 : Int32) : MU l D cy yX9_daysOn wsX9_daysOn ({ frames := 0, cells := 0, slots := 0, locals := 0 } : Room) (wAr cy a0 r) (wAr cy a0 (m_X9_daysOn r x1).2) [.ref a0, .int x1] (m_X9_daysOn r x1).1 := by
  refine MU.body (by decide) rfl (Nat.le_of_ble_eq_true rfl) ?_
  intro p e s m below meth c hx hb hml hr hts hown hlocks hP hG ls hl A hD hA hS
  have hl : lv_has ls 2 [(0, .ref a0), (1, .int x1)] := hl
  have hCF : CallFix p m c cX9_daysOn 2 s ([.ref a0, .int x1] : List Value).toArray wsX9_daysOn RX9 := ⟨hx, hb, hml, hown, hts⟩
  have hP : va_P D vwCl (wAr cy a0 r) s.heap := hP
  refine lv_aload_n hx hb dX9_daysOn_0 rfl (lv_at hl 0 rfl) ?_
  refine lv_iconst (v := (0 : Int32)) hx hb dX9_daysOn_1 (by decide) ?_
  refine lv_dup2_11 hx hb dX9_daysOn_2 rfl rfl ?_
  refine va_iald hx hb hG.1 hP 0 0 (n := 383) (f := r) g_Ar_0 rfl (bd_of (by decide) (by decide)) dX9_daysOn_3 ?_
  refine lv_iload_n hx hb dX9_daysOn_4 rfl (lv_at hl 1 rfl) ?_
  refine lv_iadd hx hb dX9_daysOn_5 ?_
  refine va_iast hx hb hG.1 hP hD hS 0 0 (n := 383) (f := r) g_Ar_0 rfl (bd_of (by decide) (by decide)) dX9_daysOn_6 (fun H locs hP hD hS => ?_)
  have hP : va_P D vwCl (wAr cy a0 (upd r (0 : Int32).toNatClampNeg ((r (0 : Int32).toNatClampNeg) + x1))) H := va_P_eq hP s_Ar_0
  have hD : va_D A (wAr cy a0 (upd r (0 : Int32).toNatClampNeg ((r (0 : Int32).toNatClampNeg) + x1))) := va_D_eq hD s_Ar_0
  refine lv_aload_n hx hb dX9_daysOn_7 rfl (lv_at hl 0 rfl) ?_
  refine lv_iconst (v := (0 : Int32)) hx hb dX9_daysOn_8 (by decide) ?_
  refine va_iald hx hb hG.1 hP 0 0 (n := 383) (f := (upd r (0 : Int32).toNatClampNeg ((r (0 : Int32).toNatClampNeg) + x1))) g_Ar_0 rfl (bd_of (by decide) (by decide)) dX9_daysOn_9 ?_
  exact mu_iret hx hb hr hlocks hP hS dX9_daysOn_10 (by rw [m_X9_daysOn]) (by rw [m_X9_daysOn])
