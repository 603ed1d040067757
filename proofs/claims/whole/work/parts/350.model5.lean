def m_X9_does (r : (Nat → Int32)) (x1 : Int32) (x2 : Int32) (x3 : Int32) (x4 : Int32) : Int32 × (Nat → Int32) := if x1 = (97 : Int32) then if (m_X9_whyNotAdvance r x2 x3 x4) = (0 : Int32) then if (m_X9_advanceOn r x2 x3 x4).1 < (0 : Int32) then ((0 : Int32), (m_X9_advanceOn r x2 x3 x4).2) else ((1 : Int32), (m_X9_advanceOn r x2 x3 x4).2) else ((0 : Int32), r) else if x1 = (98 : Int32) then if (m_X9_whyNotBuy r x2 x3) = (0 : Int32) then if (m_X9_buyOn r x2 x3).1 < (0 : Int32) then ((0 : Int32), (m_X9_buyOn r x2 x3).2) else ((1 : Int32), (m_X9_buyOn r x2 x3).2) else ((0 : Int32), r) else if x1 = (99 : Int32) then if (m_X9_in x2.toInt64 (1 : Int64) (99 : Int64)) = (0 : Int32) then ((0 : Int32), r) else if (m_X9_daysOn r x2).1 ≤ (0 : Int32) then ((0 : Int32), (m_X9_daysOn r x2).2) else ((1 : Int32), (m_X9_daysOn r x2).2) else if x1 = (100 : Int32) then if (m_X9_in x2.toInt64 (1 : Int64) (99 : Int64)) = (0 : Int32) then ((0 : Int32), r) else if (m_X9_daysOn r x2).1 ≤ (0 : Int32) then ((0 : Int32), (m_X9_daysOn r x2).2) else ((1 : Int32), (m_X9_daysOn r x2).2) else if x1 = (101 : Int32) then if (m_X9_in x2.toInt64 (1 : Int64) (99 : Int64)) = (0 : Int32) then ((0 : Int32), r) else if (m_X9_daysOn r x2).1 ≤ (0 : Int32) then ((0 : Int32), (m_X9_daysOn r x2).2) else ((1 : Int32), (m_X9_daysOn r x2).2) else if x1 = (102 : Int32) then if (m_X9_in x2.toInt64 (1 : Int64) (99 : Int64)) = (0 : Int32) then ((0 : Int32), r) else if (m_X9_daysOn r x2).1 ≤ (0 : Int32) then ((0 : Int32), (m_X9_daysOn r x2).2) else ((1 : Int32), (m_X9_daysOn r x2).2) else if x1 = (103 : Int32) then if (m_X9_in x2.toInt64 (1 : Int64) (99 : Int64)) = (0 : Int32) then ((0 : Int32), r) else if (m_X9_daysOn r x2).1 ≤ (0 : Int32) then ((0 : Int32), (m_X9_daysOn r x2).2) else ((1 : Int32), (m_X9_daysOn r x2).2) else if x1 = (104 : Int32) then if (m_X9_in x2.toInt64 (1 : Int64) (99 : Int64)) = (0 : Int32) then ((0 : Int32), r) else if (m_X9_daysOn r x2).1 ≤ (0 : Int32) then ((0 : Int32), (m_X9_daysOn r x2).2) else ((1 : Int32), (m_X9_daysOn r x2).2) else if x1 = (105 : Int32) then if (m_X9_in x2.toInt64 (1 : Int64) (99 : Int64)) = (0 : Int32) then ((0 : Int32), r) else if (m_X9_daysOn r x2).1 ≤ (0 : Int32) then ((0 : Int32), (m_X9_daysOn r x2).2) else ((1 : Int32), (m_X9_daysOn r x2).2) else if x1 = (106 : Int32) then if (m_X9_in x2.toInt64 (1 : Int64) (99 : Int64)) = (0 : Int32) then ((0 : Int32), r) else if (m_X9_daysOn r x2).1 ≤ (0 : Int32) then ((0 : Int32), (m_X9_daysOn r x2).2) else ((1 : Int32), (m_X9_daysOn r x2).2) else if x1 = (107 : Int32) then if (m_X9_in x2.toInt64 (1 : Int64) (99 : Int64)) = (0 : Int32) then ((0 : Int32), r) else if (m_X9_daysOn r x2).1 ≤ (0 : Int32) then ((0 : Int32), (m_X9_daysOn r x2).2) else ((1 : Int32), (m_X9_daysOn r x2).2) else if x1 = (108 : Int32) then if (m_X9_whyNotLend r x2 x3 x4) = (0 : Int32) then if (m_X9_lendOn r x2 x3 x4).1 < (0 : Int32) then ((0 : Int32), (m_X9_lendOn r x2 x3 x4).2) else ((1 : Int32), (m_X9_lendOn r x2 x3 x4).2) else ((0 : Int32), r) else if x1 = (109 : Int32) then if (m_X9_in x2.toInt64 (1 : Int64) (99 : Int64)) = (0 : Int32) then ((0 : Int32), r) else if (m_X9_daysOn r x2).1 ≤ (0 : Int32) then ((0 : Int32), (m_X9_daysOn r x2).2) else ((1 : Int32), (m_X9_daysOn r x2).2) else if x1 = (110 : Int32) then if (m_X9_whyNotCome r x2 x3 x4) = (0 : Int32) then if (m_X9_comeOn r x2 x3 x4).1 < (0 : Int32) then ((0 : Int32), (m_X9_comeOn r x2 x3 x4).2) else ((1 : Int32), (m_X9_comeOn r x2 x3 x4).2) else ((0 : Int32), r) else if x1 = (111 : Int32) then if (m_X9_in x2.toInt64 (1 : Int64) (99 : Int64)) = (0 : Int32) then ((0 : Int32), r) else if (m_X9_daysOn r x2).1 ≤ (0 : Int32) then ((0 : Int32), (m_X9_daysOn r x2).2) else ((1 : Int32), (m_X9_daysOn r x2).2) else if x1 = (112 : Int32) then if (m_X9_in x2.toInt64 (1 : Int64) (99 : Int64)) = (0 : Int32) then ((0 : Int32), r) else if (m_X9_daysOn r x2).1 ≤ (0 : Int32) then ((0 : Int32), (m_X9_daysOn r x2).2) else ((1 : Int32), (m_X9_daysOn r x2).2) else if x1 = (113 : Int32) then if (m_X9_in x2.toInt64 (1 : Int64) (99 : Int64)) = (0 : Int32) then ((0 : Int32), r) else if (m_X9_daysOn r x2).1 ≤ (0 : Int32) then ((0 : Int32), (m_X9_daysOn r x2).2) else ((1 : Int32), (m_X9_daysOn r x2).2) else if x1 = (114 : Int32) then if (m_X9_whyNotBring r x2) = (0 : Int32) then if (m_X9_bringOn r x2).1 < (0 : Int32) then ((0 : Int32), (m_X9_bringOn r x2).2) else ((1 : Int32), (m_X9_bringOn r x2).2) else ((0 : Int32), r) else if x1 = (115 : Int32) then if (m_X9_in x2.toInt64 (1 : Int64) (99 : Int64)) = (0 : Int32) then ((0 : Int32), r) else if (m_X9_daysOn r x2).1 ≤ (0 : Int32) then ((0 : Int32), (m_X9_daysOn r x2).2) else ((1 : Int32), (m_X9_daysOn r x2).2) else if x1 = (116 : Int32) then if (m_X9_whyNotTake r x2 x3 x4) = (0 : Int32) then if (m_X9_takeOn r x2 x3 x4).1 < (0 : Int32) then ((0 : Int32), (m_X9_takeOn r x2 x3 x4).2) else ((1 : Int32), (m_X9_takeOn r x2 x3 x4).2) else ((0 : Int32), r) else if x1 = (117 : Int32) then if (m_X9_in x2.toInt64 (1 : Int64) (99 : Int64)) = (0 : Int32) then ((0 : Int32), r) else if (m_X9_daysOn r x2).1 ≤ (0 : Int32) then ((0 : Int32), (m_X9_daysOn r x2).2) else ((1 : Int32), (m_X9_daysOn r x2).2) else if x1 = (118 : Int32) then if (m_X9_whyNotDeliver r x2) = (0 : Int32) then if (m_X9_deliverOn r x2).1 < (0 : Int32) then ((0 : Int32), (m_X9_deliverOn r x2).2) else ((1 : Int32), (m_X9_deliverOn r x2).2) else ((0 : Int32), r) else if x1 = (119 : Int32) then if (m_X9_in x2.toInt64 (1 : Int64) (99 : Int64)) = (0 : Int32) then ((0 : Int32), r) else if (m_X9_daysOn r x2).1 ≤ (0 : Int32) then ((0 : Int32), (m_X9_daysOn r x2).2) else ((1 : Int32), (m_X9_daysOn r x2).2) else if x1 = (120 : Int32) then if (m_X9_whyNotExchange r x2 x3) = (0 : Int32) then if (m_X9_exchangeOn r x2 x3).1 < (0 : Int32) then ((0 : Int32), (m_X9_exchangeOn r x2 x3).2) else ((1 : Int32), (m_X9_exchangeOn r x2 x3).2) else ((0 : Int32), r) else if (m_X9_in x2.toInt64 (1 : Int64) (99 : Int64)) = (0 : Int32) then ((0 : Int32), r) else if (m_X9_daysOn r x2).1 ≤ (0 : Int32) then ((0 : Int32), (m_X9_daysOn r x2).2) else ((1 : Int32), (m_X9_daysOn r x2).2)
theorem hd_X9_does : yX9_does.cls = RX9 ∧ yX9_does.cls ≠ "java/lang/invoke/MethodHandle" ∧ yX9_does.cls ≠ "java/lang/invoke/VarHandle" ∧ (parseMethodDescriptor yX9_does.desc).map (fun d => d.parameters.length) = some 5 := by decide +kernel
set_option maxHeartbeats 8000000 in
set_option maxRecDepth 20000 in
theorem c_X9_does (l : Launch) (D : va_G) (cy : Nat → ClassId) (a0 : Nat) (r : (Nat → Int32)) (x1 : Int32) (x2 : Int32) (x3 : Int32) (x4 : Int32) (hR : rOK r) : MU l D cy yX9_does wsX9_does ({ frames := 4, cells := 0, slots := 0, locals := 91 } : Room) (wAr cy a0 r) (wAr cy a0 (m_X9_does r x1 x2 x3 x4).2) [.ref a0, .int x1, .int x2, .int x3, .int x4] (m_X9_does r x1 x2 x3 x4).1 := by
  refine MU.body (by decide) rfl (Nat.le_of_ble_eq_true rfl) ?_
  intro p e s m below meth c hx hb hml hr hts hown hlocks hP hG ls hl A hD hA hS
  have hl : lv_has ls 5 [(0, .ref a0), (1, .int x1), (2, .int x2), (3, .int x3), (4, .int x4)] := hl
  have hCF : CallFix p m c cX9_does 5 s ([.ref a0, .int x1, .int x2, .int x3, .int x4] : List Value).toArray wsX9_does RX9 := ⟨hx, hb, hml, hown, hts⟩
  have k_0 := hts (Cond.constantLong RX9 173 (99)) (List.mem_of_getElem? (i := 1) rfl)
  have hP : va_P D vwCl (wAr cy a0 r) s.heap := hP
  refine lv_iload_n hx hb dX9_does_0 rfl (lv_at hl 1 rfl) ?_
  by_cases c_1 : x1 = (97 : Int32)
  · refine lv_tableIn (tgt := 214) hx hb dX9_does_1 (by rw [c_1]; decide) (by rw [c_1]; decide) (by rw [c_1]; rfl) (by decide) ?_
    refine lv_aload_n hx hb dX9_does_214 rfl (lv_at hl 0 rfl) ?_
    refine lv_iload_n hx hb dX9_does_215 rfl (lv_at hl 2 rfl) ?_
    refine lv_iload_n hx hb dX9_does_216 rfl (lv_at hl 3 rfl) ?_
    refine lv_iload hx hb dX9_does_217 (lv_at hl 4 rfl) ?_
    refine roS (wc := (wAr cy a0 r)) (As := [.ref a0, .int x2, .int x3, .int x4]) (rest := []) (c_X9_whyNotAdvance l D cy a0 r x2 x3 x4 hR) hCF gX9_does_X9_whyNotAdvance rfl hd_X9_whyNotAdvance ⟨rfl, rfl, Nat.le_of_ble_eq_true rfl, Nat.le_of_ble_eq_true rfl⟩ hG hP rfl hl.1 rfl (Nat.le_of_ble_eq_true rfl) dX9_does_219 ⟨Nat.le_refl _, Nat.le_refl _⟩ ?_
    refine lv_if_ne (tgt := 240) hx hb dX9_does_222 (by decide) (fun c_2 => ?_) (fun c_2 => ?_)
    · skip
      refine lv_iconst (v := (0 : Int32)) hx hb dX9_does_240 (by decide) ?_
      exact mu_zret hx hb hr hlocks rfl hP hS dX9_does_241 (by rw [m_X9_does, if_pos c_1, if_neg c_2]) (by rw [m_X9_does, if_pos c_1, if_neg c_2])
    · skip
      refine lv_aload_n hx hb dX9_does_225 rfl (lv_at hl 0 rfl) ?_
      refine lv_iload_n hx hb dX9_does_226 rfl (lv_at hl 2 rfl) ?_
      refine lv_iload_n hx hb dX9_does_227 rfl (lv_at hl 3 rfl) ?_
      refine lv_iload hx hb dX9_does_228 (lv_at hl 4 rfl) ?_
      refine muS (A0 := A) (wc := (wAr cy a0 r)) (As := [.ref a0, .int x2, .int x3, .int x4]) (rest := []) (c_X9_advanceOn l D cy a0 r x2 x3 x4 hR (wn_Advance_0 hR c_2) (wn_Advance_1 hR c_2) (wn_Adv_n hR c_2)) hCF gX9_does_X9_advanceOn rfl hd_X9_advanceOn ⟨rfl, rfl, Nat.le_of_ble_eq_true rfl, Nat.le_of_ble_eq_true rfl⟩ hG hP hD hS hA [0] rfl c_Ar_Ar h_Ar rfl hl.1 rfl (Nat.le_of_ble_eq_true rfl) dX9_does_230 ⟨Nat.le_refl _, Nat.le_refl _⟩ (fun H locs hP hD hS => ?_)
      have hP : va_P D vwCl (wAr cy a0 (m_X9_advanceOn r x2 x3 x4).2) H := va_P_eq hP r_Ar_Ar
      have hD : va_D A (wAr cy a0 (m_X9_advanceOn r x2 x3 x4).2) := va_D_eq hD r_Ar_Ar
      refine lv_if_lt (tgt := 240) hx hb dX9_does_233 (by decide) (fun c_3 => ?_) (fun c_3 => ?_)
      · skip
        refine lv_iconst (v := (0 : Int32)) hx hb dX9_does_240 (by decide) ?_
        exact mu_zret hx hb hr hlocks rfl hP hS dX9_does_241 (by rw [m_X9_does, if_pos c_1, if_pos c_2, if_pos c_3]) (by rw [m_X9_does, if_pos c_1, if_pos c_2, if_pos c_3])
      · skip
        refine lv_iconst (v := (1 : Int32)) hx hb dX9_does_236 (by decide) ?_
        refine lv_goto (tgt := 241) hx hb dX9_does_237 (by decide) ?_
        exact mu_zret hx hb hr hlocks rfl hP hS dX9_does_241 (by rw [m_X9_does, if_pos c_1, if_pos c_2, if_neg c_3]) (by rw [m_X9_does, if_pos c_1, if_pos c_2, if_neg c_3])
  by_cases c_4 : x1 = (98 : Int32)
  · refine lv_tableIn (tgt := 292) hx hb dX9_does_1 (by rw [c_4]; decide) (by rw [c_4]; decide) (by rw [c_4]; rfl) (by decide) ?_
    refine lv_aload_n hx hb dX9_does_292 rfl (lv_at hl 0 rfl) ?_
    refine lv_iload_n hx hb dX9_does_293 rfl (lv_at hl 2 rfl) ?_
    refine lv_iload_n hx hb dX9_does_294 rfl (lv_at hl 3 rfl) ?_
    refine roS (wc := (wAr cy a0 r)) (As := [.ref a0, .int x2, .int x3]) (rest := []) (c_X9_whyNotBuy l D cy a0 r x2 x3 hR) hCF gX9_does_X9_whyNotBuy rfl hd_X9_whyNotBuy ⟨rfl, rfl, Nat.le_of_ble_eq_true rfl, Nat.le_of_ble_eq_true rfl⟩ hG hP rfl hl.1 rfl (Nat.le_of_ble_eq_true rfl) dX9_does_295 ⟨Nat.le_refl _, Nat.le_refl _⟩ ?_
    refine lv_if_ne (tgt := 314) hx hb dX9_does_298 (by decide) (fun c_5 => ?_) (fun c_5 => ?_)
    · skip
      refine lv_iconst (v := (0 : Int32)) hx hb dX9_does_314 (by decide) ?_
      exact mu_zret hx hb hr hlocks rfl hP hS dX9_does_315 (by rw [m_X9_does, if_neg c_1, if_pos c_4, if_neg c_5]) (by rw [m_X9_does, if_neg c_1, if_pos c_4, if_neg c_5])
    · skip
      refine lv_aload_n hx hb dX9_does_301 rfl (lv_at hl 0 rfl) ?_
      refine lv_iload_n hx hb dX9_does_302 rfl (lv_at hl 2 rfl) ?_
      refine lv_iload_n hx hb dX9_does_303 rfl (lv_at hl 3 rfl) ?_
      refine muS (A0 := A) (wc := (wAr cy a0 r)) (As := [.ref a0, .int x2, .int x3]) (rest := []) (c_X9_buyOn l D cy a0 r x2 x3 hR (wn_Buy_0 hR c_5) (wn_Buy_1 hR c_5)) hCF gX9_does_X9_buyOn rfl hd_X9_buyOn ⟨rfl, rfl, Nat.le_of_ble_eq_true rfl, Nat.le_of_ble_eq_true rfl⟩ hG hP hD hS hA [0] rfl c_Ar_Ar h_Ar rfl hl.1 rfl (Nat.le_of_ble_eq_true rfl) dX9_does_304 ⟨Nat.le_refl _, Nat.le_refl _⟩ (fun H locs hP hD hS => ?_)
      have hP : va_P D vwCl (wAr cy a0 (m_X9_buyOn r x2 x3).2) H := va_P_eq hP r_Ar_Ar
      have hD : va_D A (wAr cy a0 (m_X9_buyOn r x2 x3).2) := va_D_eq hD r_Ar_Ar
      refine lv_if_lt (tgt := 314) hx hb dX9_does_307 (by decide) (fun c_6 => ?_) (fun c_6 => ?_)
      · skip
        refine lv_iconst (v := (0 : Int32)) hx hb dX9_does_314 (by decide) ?_
        exact mu_zret hx hb hr hlocks rfl hP hS dX9_does_315 (by rw [m_X9_does, if_neg c_1, if_pos c_4, if_pos c_5, if_pos c_6]) (by rw [m_X9_does, if_neg c_1, if_pos c_4, if_pos c_5, if_pos c_6])
      · skip
        refine lv_iconst (v := (1 : Int32)) hx hb dX9_does_310 (by decide) ?_
        refine lv_goto (tgt := 315) hx hb dX9_does_311 (by decide) ?_
        exact mu_zret hx hb hr hlocks rfl hP hS dX9_does_315 (by rw [m_X9_does, if_neg c_1, if_pos c_4, if_pos c_5, if_neg c_6]) (by rw [m_X9_does, if_neg c_1, if_pos c_4, if_pos c_5, if_neg c_6])
  by_cases c_7 : x1 = (99 : Int32)
  · refine lv_tableIn (tgt := 316) hx hb dX9_does_1 (by rw [c_7]; decide) (by rw [c_7]; decide) (by rw [c_7]; rfl) (by decide) ?_
    refine lv_iload_n hx hb dX9_does_316 rfl (lv_at hl 2 rfl) ?_
    refine lv_i2l hx hb dX9_does_317 rfl ?_
    refine lv_lconst (v := (1 : Int64)) hx hb dX9_does_318 (by decide) ?_
    refine lv_ldc2 (v := (99 : Int64)) hx hb hown k_0 dX9_does_319 ?_
    refine roS (wc := ([] : va_W)) (As := [.long x2.toInt64, .long (1 : Int64), .long (99 : Int64)]) (rest := []) (c_X9_in l D cy x2.toInt64 (1 : Int64) (99 : Int64)) hCF gX9_does_X9_in rfl hd_X9_in ⟨rfl, rfl, Nat.le_of_ble_eq_true rfl, Nat.le_of_ble_eq_true rfl⟩ hG va_P_nil rfl hl.1 rfl (Nat.le_of_ble_eq_true rfl) dX9_does_322 ⟨Nat.le_refl _, Nat.le_refl _⟩ ?_
    refine lv_if_eq (tgt := 340) hx hb dX9_does_325 (by decide) (fun c_8 => ?_) (fun c_8 => ?_)
    · skip
      refine lv_iconst (v := (0 : Int32)) hx hb dX9_does_340 (by decide) ?_
      exact mu_zret hx hb hr hlocks rfl hP hS dX9_does_341 (by rw [m_X9_does, if_neg c_1, if_neg c_4, if_pos c_7, if_pos c_8]) (by rw [m_X9_does, if_neg c_1, if_neg c_4, if_pos c_7, if_pos c_8])
    · skip
      refine lv_aload_n hx hb dX9_does_328 rfl (lv_at hl 0 rfl) ?_
      refine lv_iload_n hx hb dX9_does_329 rfl (lv_at hl 2 rfl) ?_
      refine muS (A0 := A) (wc := (wAr cy a0 r)) (As := [.ref a0, .int x2]) (rest := []) (c_X9_daysOn l D cy a0 r x2) hCF gX9_does_X9_daysOn rfl hd_X9_daysOn ⟨rfl, rfl, Nat.le_of_ble_eq_true rfl, Nat.le_of_ble_eq_true rfl⟩ hG hP hD hS hA [0] rfl c_Ar_Ar h_Ar rfl hl.1 rfl (Nat.le_of_ble_eq_true rfl) dX9_does_330 ⟨Nat.le_refl _, Nat.le_refl _⟩ (fun H locs hP hD hS => ?_)
      have hP : va_P D vwCl (wAr cy a0 (m_X9_daysOn r x2).2) H := va_P_eq hP r_Ar_Ar
      have hD : va_D A (wAr cy a0 (m_X9_daysOn r x2).2) := va_D_eq hD r_Ar_Ar
      refine lv_if_le (tgt := 340) hx hb dX9_does_333 (by decide) (fun c_9 => ?_) (fun c_9 => ?_)
      · skip
        refine lv_iconst (v := (0 : Int32)) hx hb dX9_does_340 (by decide) ?_
        exact mu_zret hx hb hr hlocks rfl hP hS dX9_does_341 (by rw [m_X9_does, if_neg c_1, if_neg c_4, if_pos c_7, if_neg c_8, if_pos c_9]) (by rw [m_X9_does, if_neg c_1, if_neg c_4, if_pos c_7, if_neg c_8, if_pos c_9])
      · skip
        refine lv_iconst (v := (1 : Int32)) hx hb dX9_does_336 (by decide) ?_
        refine lv_goto (tgt := 341) hx hb dX9_does_337 (by decide) ?_
        exact mu_zret hx hb hr hlocks rfl hP hS dX9_does_341 (by rw [m_X9_does, if_neg c_1, if_neg c_4, if_pos c_7, if_neg c_8, if_neg c_9]) (by rw [m_X9_does, if_neg c_1, if_neg c_4, if_pos c_7, if_neg c_8, if_neg c_9])
  by_cases c_10 : x1 = (100 : Int32)
  · refine lv_tableIn (tgt := 316) hx hb dX9_does_1 (by rw [c_10]; decide) (by rw [c_10]; decide) (by rw [c_10]; rfl) (by decide) ?_
    refine lv_iload_n hx hb dX9_does_316 rfl (lv_at hl 2 rfl) ?_
    refine lv_i2l hx hb dX9_does_317 rfl ?_
    refine lv_lconst (v := (1 : Int64)) hx hb dX9_does_318 (by decide) ?_
    refine lv_ldc2 (v := (99 : Int64)) hx hb hown k_0 dX9_does_319 ?_
    refine roS (wc := ([] : va_W)) (As := [.long x2.toInt64, .long (1 : Int64), .long (99 : Int64)]) (rest := []) (c_X9_in l D cy x2.toInt64 (1 : Int64) (99 : Int64)) hCF gX9_does_X9_in rfl hd_X9_in ⟨rfl, rfl, Nat.le_of_ble_eq_true rfl, Nat.le_of_ble_eq_true rfl⟩ hG va_P_nil rfl hl.1 rfl (Nat.le_of_ble_eq_true rfl) dX9_does_322 ⟨Nat.le_refl _, Nat.le_refl _⟩ ?_
    refine lv_if_eq (tgt := 340) hx hb dX9_does_325 (by decide) (fun c_11 => ?_) (fun c_11 => ?_)
    · skip
      refine lv_iconst (v := (0 : Int32)) hx hb dX9_does_340 (by decide) ?_
      exact mu_zret hx hb hr hlocks rfl hP hS dX9_does_341 (by rw [m_X9_does, if_neg c_1, if_neg c_4, if_neg c_7, if_pos c_10, if_pos c_11]) (by rw [m_X9_does, if_neg c_1, if_neg c_4, if_neg c_7, if_pos c_10, if_pos c_11])
    · skip
      refine lv_aload_n hx hb dX9_does_328 rfl (lv_at hl 0 rfl) ?_
      refine lv_iload_n hx hb dX9_does_329 rfl (lv_at hl 2 rfl) ?_
      refine muS (A0 := A) (wc := (wAr cy a0 r)) (As := [.ref a0, .int x2]) (rest := []) (c_X9_daysOn l D cy a0 r x2) hCF gX9_does_X9_daysOn rfl hd_X9_daysOn ⟨rfl, rfl, Nat.le_of_ble_eq_true rfl, Nat.le_of_ble_eq_true rfl⟩ hG hP hD hS hA [0] rfl c_Ar_Ar h_Ar rfl hl.1 rfl (Nat.le_of_ble_eq_true rfl) dX9_does_330 ⟨Nat.le_refl _, Nat.le_refl _⟩ (fun H locs hP hD hS => ?_)
      have hP : va_P D vwCl (wAr cy a0 (m_X9_daysOn r x2).2) H := va_P_eq hP r_Ar_Ar
      have hD : va_D A (wAr cy a0 (m_X9_daysOn r x2).2) := va_D_eq hD r_Ar_Ar
      refine lv_if_le (tgt := 340) hx hb dX9_does_333 (by decide) (fun c_12 => ?_) (fun c_12 => ?_)
      · skip
        refine lv_iconst (v := (0 : Int32)) hx hb dX9_does_340 (by decide) ?_
        exact mu_zret hx hb hr hlocks rfl hP hS dX9_does_341 (by rw [m_X9_does, if_neg c_1, if_neg c_4, if_neg c_7, if_pos c_10, if_neg c_11, if_pos c_12]) (by rw [m_X9_does, if_neg c_1, if_neg c_4, if_neg c_7, if_pos c_10, if_neg c_11, if_pos c_12])
      · skip
        refine lv_iconst (v := (1 : Int32)) hx hb dX9_does_336 (by decide) ?_
        refine lv_goto (tgt := 341) hx hb dX9_does_337 (by decide) ?_
        exact mu_zret hx hb hr hlocks rfl hP hS dX9_does_341 (by rw [m_X9_does, if_neg c_1, if_neg c_4, if_neg c_7, if_pos c_10, if_neg c_11, if_neg c_12]) (by rw [m_X9_does, if_neg c_1, if_neg c_4, if_neg c_7, if_pos c_10, if_neg c_11, if_neg c_12])
  by_cases c_13 : x1 = (101 : Int32)
  · refine lv_tableIn (tgt := 316) hx hb dX9_does_1 (by rw [c_13]; decide) (by rw [c_13]; decide) (by rw [c_13]; rfl) (by decide) ?_
    refine lv_iload_n hx hb dX9_does_316 rfl (lv_at hl 2 rfl) ?_
    refine lv_i2l hx hb dX9_does_317 rfl ?_
    refine lv_lconst (v := (1 : Int64)) hx hb dX9_does_318 (by decide) ?_
    refine lv_ldc2 (v := (99 : Int64)) hx hb hown k_0 dX9_does_319 ?_
    refine roS (wc := ([] : va_W)) (As := [.long x2.toInt64, .long (1 : Int64), .long (99 : Int64)]) (rest := []) (c_X9_in l D cy x2.toInt64 (1 : Int64) (99 : Int64)) hCF gX9_does_X9_in rfl hd_X9_in ⟨rfl, rfl, Nat.le_of_ble_eq_true rfl, Nat.le_of_ble_eq_true rfl⟩ hG va_P_nil rfl hl.1 rfl (Nat.le_of_ble_eq_true rfl) dX9_does_322 ⟨Nat.le_refl _, Nat.le_refl _⟩ ?_
    refine lv_if_eq (tgt := 340) hx hb dX9_does_325 (by decide) (fun c_14 => ?_) (fun c_14 => ?_)
    · skip
      refine lv_iconst (v := (0 : Int32)) hx hb dX9_does_340 (by decide) ?_
      exact mu_zret hx hb hr hlocks rfl hP hS dX9_does_341 (by rw [m_X9_does, if_neg c_1, if_neg c_4, if_neg c_7, if_neg c_10, if_pos c_13, if_pos c_14]) (by rw [m_X9_does, if_neg c_1, if_neg c_4, if_neg c_7, if_neg c_10, if_pos c_13, if_pos c_14])
    · skip
      refine lv_aload_n hx hb dX9_does_328 rfl (lv_at hl 0 rfl) ?_
      refine lv_iload_n hx hb dX9_does_329 rfl (lv_at hl 2 rfl) ?_
      refine muS (A0 := A) (wc := (wAr cy a0 r)) (As := [.ref a0, .int x2]) (rest := []) (c_X9_daysOn l D cy a0 r x2) hCF gX9_does_X9_daysOn rfl hd_X9_daysOn ⟨rfl, rfl, Nat.le_of_ble_eq_true rfl, Nat.le_of_ble_eq_true rfl⟩ hG hP hD hS hA [0] rfl c_Ar_Ar h_Ar rfl hl.1 rfl (Nat.le_of_ble_eq_true rfl) dX9_does_330 ⟨Nat.le_refl _, Nat.le_refl _⟩ (fun H locs hP hD hS => ?_)
      have hP : va_P D vwCl (wAr cy a0 (m_X9_daysOn r x2).2) H := va_P_eq hP r_Ar_Ar
      have hD : va_D A (wAr cy a0 (m_X9_daysOn r x2).2) := va_D_eq hD r_Ar_Ar
      refine lv_if_le (tgt := 340) hx hb dX9_does_333 (by decide) (fun c_15 => ?_) (fun c_15 => ?_)
      · skip
        refine lv_iconst (v := (0 : Int32)) hx hb dX9_does_340 (by decide) ?_
        exact mu_zret hx hb hr hlocks rfl hP hS dX9_does_341 (by rw [m_X9_does, if_neg c_1, if_neg c_4, if_neg c_7, if_neg c_10, if_pos c_13, if_neg c_14, if_pos c_15]) (by rw [m_X9_does, if_neg c_1, if_neg c_4, if_neg c_7, if_neg c_10, if_pos c_13, if_neg c_14, if_pos c_15])
      · skip
        refine lv_iconst (v := (1 : Int32)) hx hb dX9_does_336 (by decide) ?_
        refine lv_goto (tgt := 341) hx hb dX9_does_337 (by decide) ?_
        exact mu_zret hx hb hr hlocks rfl hP hS dX9_does_341 (by rw [m_X9_does, if_neg c_1, if_neg c_4, if_neg c_7, if_neg c_10, if_pos c_13, if_neg c_14, if_neg c_15]) (by rw [m_X9_does, if_neg c_1, if_neg c_4, if_neg c_7, if_neg c_10, if_pos c_13, if_neg c_14, if_neg c_15])
  by_cases c_16 : x1 = (102 : Int32)
  · refine lv_tableIn (tgt := 316) hx hb dX9_does_1 (by rw [c_16]; decide) (by rw [c_16]; decide) (by rw [c_16]; rfl) (by decide) ?_
    refine lv_iload_n hx hb dX9_does_316 rfl (lv_at hl 2 rfl) ?_
    refine lv_i2l hx hb dX9_does_317 rfl ?_
    refine lv_lconst (v := (1 : Int64)) hx hb dX9_does_318 (by decide) ?_
    refine lv_ldc2 (v := (99 : Int64)) hx hb hown k_0 dX9_does_319 ?_
    refine roS (wc := ([] : va_W)) (As := [.long x2.toInt64, .long (1 : Int64), .long (99 : Int64)]) (rest := []) (c_X9_in l D cy x2.toInt64 (1 : Int64) (99 : Int64)) hCF gX9_does_X9_in rfl hd_X9_in ⟨rfl, rfl, Nat.le_of_ble_eq_true rfl, Nat.le_of_ble_eq_true rfl⟩ hG va_P_nil rfl hl.1 rfl (Nat.le_of_ble_eq_true rfl) dX9_does_322 ⟨Nat.le_refl _, Nat.le_refl _⟩ ?_
    refine lv_if_eq (tgt := 340) hx hb dX9_does_325 (by decide) (fun c_17 => ?_) (fun c_17 => ?_)
    · skip
      refine lv_iconst (v := (0 : Int32)) hx hb dX9_does_340 (by decide) ?_
      exact mu_zret hx hb hr hlocks rfl hP hS dX9_does_341 (by rw [m_X9_does, if_neg c_1, if_neg c_4, if_neg c_7, if_neg c_10, if_neg c_13, if_pos c_16, if_pos c_17]) (by rw [m_X9_does, if_neg c_1, if_neg c_4, if_neg c_7, if_neg c_10, if_neg c_13, if_pos c_16, if_pos c_17])
    · skip
      refine lv_aload_n hx hb dX9_does_328 rfl (lv_at hl 0 rfl) ?_
      refine lv_iload_n hx hb dX9_does_329 rfl (lv_at hl 2 rfl) ?_
      refine muS (A0 := A) (wc := (wAr cy a0 r)) (As := [.ref a0, .int x2]) (rest := []) (c_X9_daysOn l D cy a0 r x2) hCF gX9_does_X9_daysOn rfl hd_X9_daysOn ⟨rfl, rfl, Nat.le_of_ble_eq_true rfl, Nat.le_of_ble_eq_true rfl⟩ hG hP hD hS hA [0] rfl c_Ar_Ar h_Ar rfl hl.1 rfl (Nat.le_of_ble_eq_true rfl) dX9_does_330 ⟨Nat.le_refl _, Nat.le_refl _⟩ (fun H locs hP hD hS => ?_)
      have hP : va_P D vwCl (wAr cy a0 (m_X9_daysOn r x2).2) H := va_P_eq hP r_Ar_Ar
      have hD : va_D A (wAr cy a0 (m_X9_daysOn r x2).2) := va_D_eq hD r_Ar_Ar
      refine lv_if_le (tgt := 340) hx hb dX9_does_333 (by decide) (fun c_18 => ?_) (fun c_18 => ?_)
      · skip
        refine lv_iconst (v := (0 : Int32)) hx hb dX9_does_340 (by decide) ?_
        exact mu_zret hx hb hr hlocks rfl hP hS dX9_does_341 (by rw [m_X9_does, if_neg c_1, if_neg c_4, if_neg c_7, if_neg c_10, if_neg c_13, if_pos c_16, if_neg c_17, if_pos c_18]) (by rw [m_X9_does, if_neg c_1, if_neg c_4, if_neg c_7, if_neg c_10, if_neg c_13, if_pos c_16, if_neg c_17, if_pos c_18])
      · skip
        refine lv_iconst (v := (1 : Int32)) hx hb dX9_does_336 (by decide) ?_
        refine lv_goto (tgt := 341) hx hb dX9_does_337 (by decide) ?_
        exact mu_zret hx hb hr hlocks rfl hP hS dX9_does_341 (by rw [m_X9_does, if_neg c_1, if_neg c_4, if_neg c_7, if_neg c_10, if_neg c_13, if_pos c_16, if_neg c_17, if_neg c_18]) (by rw [m_X9_does, if_neg c_1, if_neg c_4, if_neg c_7, if_neg c_10, if_neg c_13, if_pos c_16, if_neg c_17, if_neg c_18])
  by_cases c_19 : x1 = (103 : Int32)
  · refine lv_tableIn (tgt := 316) hx hb dX9_does_1 (by rw [c_19]; decide) (by rw [c_19]; decide) (by rw [c_19]; rfl) (by decide) ?_
    refine lv_iload_n hx hb dX9_does_316 rfl (lv_at hl 2 rfl) ?_
    refine lv_i2l hx hb dX9_does_317 rfl ?_
    refine lv_lconst (v := (1 : Int64)) hx hb dX9_does_318 (by decide) ?_
    refine lv_ldc2 (v := (99 : Int64)) hx hb hown k_0 dX9_does_319 ?_
    refine roS (wc := ([] : va_W)) (As := [.long x2.toInt64, .long (1 : Int64), .long (99 : Int64)]) (rest := []) (c_X9_in l D cy x2.toInt64 (1 : Int64) (99 : Int64)) hCF gX9_does_X9_in rfl hd_X9_in ⟨rfl, rfl, Nat.le_of_ble_eq_true rfl, Nat.le_of_ble_eq_true rfl⟩ hG va_P_nil rfl hl.1 rfl (Nat.le_of_ble_eq_true rfl) dX9_does_322 ⟨Nat.le_refl _, Nat.le_refl _⟩ ?_
    refine lv_if_eq (tgt := 340) hx hb dX9_does_325 (by decide) (fun c_20 => ?_) (fun c_20 => ?_)
    · skip
      refine lv_iconst (v := (0 : Int32)) hx hb dX9_does_340 (by decide) ?_
      exact mu_zret hx hb hr hlocks rfl hP hS dX9_does_341 (by rw [m_X9_does, if_neg c_1, if_neg c_4, if_neg c_7, if_neg c_10, if_neg c_13, if_neg c_16, if_pos c_19, if_pos c_20]) (by rw [m_X9_does, if_neg c_1, if_neg c_4, if_neg c_7, if_neg c_10, if_neg c_13, if_neg c_16, if_pos c_19, if_pos c_20])
    · skip
      refine lv_aload_n hx hb dX9_does_328 rfl (lv_at hl 0 rfl) ?_
      refine lv_iload_n hx hb dX9_does_329 rfl (lv_at hl 2 rfl) ?_
      refine muS (A0 := A) (wc := (wAr cy a0 r)) (As := [.ref a0, .int x2]) (rest := []) (c_X9_daysOn l D cy a0 r x2) hCF gX9_does_X9_daysOn rfl hd_X9_daysOn ⟨rfl, rfl, Nat.le_of_ble_eq_true rfl, Nat.le_of_ble_eq_true rfl⟩ hG hP hD hS hA [0] rfl c_Ar_Ar h_Ar rfl hl.1 rfl (Nat.le_of_ble_eq_true rfl) dX9_does_330 ⟨Nat.le_refl _, Nat.le_refl _⟩ (fun H locs hP hD hS => ?_)
      have hP : va_P D vwCl (wAr cy a0 (m_X9_daysOn r x2).2) H := va_P_eq hP r_Ar_Ar
      have hD : va_D A (wAr cy a0 (m_X9_daysOn r x2).2) := va_D_eq hD r_Ar_Ar
      refine lv_if_le (tgt := 340) hx hb dX9_does_333 (by decide) (fun c_21 => ?_) (fun c_21 => ?_)
      · skip
        refine lv_iconst (v := (0 : Int32)) hx hb dX9_does_340 (by decide) ?_
        exact mu_zret hx hb hr hlocks rfl hP hS dX9_does_341 (by rw [m_X9_does, if_neg c_1, if_neg c_4, if_neg c_7, if_neg c_10, if_neg c_13, if_neg c_16, if_pos c_19, if_neg c_20, if_pos c_21]) (by rw [m_X9_does, if_neg c_1, if_neg c_4, if_neg c_7, if_neg c_10, if_neg c_13, if_neg c_16, if_pos c_19, if_neg c_20, if_pos c_21])
      · skip
        refine lv_iconst (v := (1 : Int32)) hx hb dX9_does_336 (by decide) ?_
        refine lv_goto (tgt := 341) hx hb dX9_does_337 (by decide) ?_
        exact mu_zret hx hb hr hlocks rfl hP hS dX9_does_341 (by rw [m_X9_does, if_neg c_1, if_neg c_4, if_neg c_7, if_neg c_10, if_neg c_13, if_neg c_16, if_pos c_19, if_neg c_20, if_neg c_21]) (by rw [m_X9_does, if_neg c_1, if_neg c_4, if_neg c_7, if_neg c_10, if_neg c_13, if_neg c_16, if_pos c_19, if_neg c_20, if_neg c_21])
  by_cases c_22 : x1 = (104 : Int32)
  · refine lv_tableIn (tgt := 316) hx hb dX9_does_1 (by rw [c_22]; decide) (by rw [c_22]; decide) (by rw [c_22]; rfl) (by decide) ?_
    refine lv_iload_n hx hb dX9_does_316 rfl (lv_at hl 2 rfl) ?_
    refine lv_i2l hx hb dX9_does_317 rfl ?_
    refine lv_lconst (v := (1 : Int64)) hx hb dX9_does_318 (by decide) ?_
    refine lv_ldc2 (v := (99 : Int64)) hx hb hown k_0 dX9_does_319 ?_
    refine roS (wc := ([] : va_W)) (As := [.long x2.toInt64, .long (1 : Int64), .long (99 : Int64)]) (rest := []) (c_X9_in l D cy x2.toInt64 (1 : Int64) (99 : Int64)) hCF gX9_does_X9_in rfl hd_X9_in ⟨rfl, rfl, Nat.le_of_ble_eq_true rfl, Nat.le_of_ble_eq_true rfl⟩ hG va_P_nil rfl hl.1 rfl (Nat.le_of_ble_eq_true rfl) dX9_does_322 ⟨Nat.le_refl _, Nat.le_refl _⟩ ?_
    refine lv_if_eq (tgt := 340) hx hb dX9_does_325 (by decide) (fun c_23 => ?_) (fun c_23 => ?_)
    · skip
      refine lv_iconst (v := (0 : Int32)) hx hb dX9_does_340 (by decide) ?_
      exact mu_zret hx hb hr hlocks rfl hP hS dX9_does_341 (by rw [m_X9_does, if_neg c_1, if_neg c_4, if_neg c_7, if_neg c_10, if_neg c_13, if_neg c_16, if_neg c_19, if_pos c_22, if_pos c_23]) (by rw [m_X9_does, if_neg c_1, if_neg c_4, if_neg c_7, if_neg c_10, if_neg c_13, if_neg c_16, if_neg c_19, if_pos c_22, if_pos c_23])
    · skip
      refine lv_aload_n hx hb dX9_does_328 rfl (lv_at hl 0 rfl) ?_
      refine lv_iload_n hx hb dX9_does_329 rfl (lv_at hl 2 rfl) ?_
      refine muS (A0 := A) (wc := (wAr cy a0 r)) (As := [.ref a0, .int x2]) (rest := []) (c_X9_daysOn l D cy a0 r x2) hCF gX9_does_X9_daysOn rfl hd_X9_daysOn ⟨rfl, rfl, Nat.le_of_ble_eq_true rfl, Nat.le_of_ble_eq_true rfl⟩ hG hP hD hS hA [0] rfl c_Ar_Ar h_Ar rfl hl.1 rfl (Nat.le_of_ble_eq_true rfl) dX9_does_330 ⟨Nat.le_refl _, Nat.le_refl _⟩ (fun H locs hP hD hS => ?_)
      have hP : va_P D vwCl (wAr cy a0 (m_X9_daysOn r x2).2) H := va_P_eq hP r_Ar_Ar
      have hD : va_D A (wAr cy a0 (m_X9_daysOn r x2).2) := va_D_eq hD r_Ar_Ar
      refine lv_if_le (tgt := 340) hx hb dX9_does_333 (by decide) (fun c_24 => ?_) (fun c_24 => ?_)
      · skip
        refine lv_iconst (v := (0 : Int32)) hx hb dX9_does_340 (by decide) ?_
        exact mu_zret hx hb hr hlocks rfl hP hS dX9_does_341 (by rw [m_X9_does, if_neg c_1, if_neg c_4, if_neg c_7, if_neg c_10, if_neg c_13, if_neg c_16, if_neg c_19, if_pos c_22, if_neg c_23, if_pos c_24]) (by rw [m_X9_does, if_neg c_1, if_neg c_4, if_neg c_7, if_neg c_10, if_neg c_13, if_neg c_16, if_neg c_19, if_pos c_22, if_neg c_23, if_pos c_24])
      · skip
        refine lv_iconst (v := (1 : Int32)) hx hb dX9_does_336 (by decide) ?_
        refine lv_goto (tgt := 341) hx hb dX9_does_337 (by decide) ?_
        exact mu_zret hx hb hr hlocks rfl hP hS dX9_does_341 (by rw [m_X9_does, if_neg c_1, if_neg c_4, if_neg c_7, if_neg c_10, if_neg c_13, if_neg c_16, if_neg c_19, if_pos c_22, if_neg c_23, if_neg c_24]) (by rw [m_X9_does, if_neg c_1, if_neg c_4, if_neg c_7, if_neg c_10, if_neg c_13, if_neg c_16, if_neg c_19, if_pos c_22, if_neg c_23, if_neg c_24])
  by_cases c_25 : x1 = (105 : Int32)
  · refine lv_tableIn (tgt := 316) hx hb dX9_does_1 (by rw [c_25]; decide) (by rw [c_25]; decide) (by rw [c_25]; rfl) (by decide) ?_
    refine lv_iload_n hx hb dX9_does_316 rfl (lv_at hl 2 rfl) ?_
    refine lv_i2l hx hb dX9_does_317 rfl ?_
    refine lv_lconst (v := (1 : Int64)) hx hb dX9_does_318 (by decide) ?_
    refine lv_ldc2 (v := (99 : Int64)) hx hb hown k_0 dX9_does_319 ?_
    refine roS (wc := ([] : va_W)) (As := [.long x2.toInt64, .long (1 : Int64), .long (99 : Int64)]) (rest := []) (c_X9_in l D cy x2.toInt64 (1 : Int64) (99 : Int64)) hCF gX9_does_X9_in rfl hd_X9_in ⟨rfl, rfl, Nat.le_of_ble_eq_true rfl, Nat.le_of_ble_eq_true rfl⟩ hG va_P_nil rfl hl.1 rfl (Nat.le_of_ble_eq_true rfl) dX9_does_322 ⟨Nat.le_refl _, Nat.le_refl _⟩ ?_
    refine lv_if_eq (tgt := 340) hx hb dX9_does_325 (by decide) (fun c_26 => ?_) (fun c_26 => ?_)
    · skip
      refine lv_iconst (v := (0 : Int32)) hx hb dX9_does_340 (by decide) ?_
      exact mu_zret hx hb hr hlocks rfl hP hS dX9_does_341 (by rw [m_X9_does, if_neg c_1, if_neg c_4, if_neg c_7, if_neg c_10, if_neg c_13, if_neg c_16, if_neg c_19, if_neg c_22, if_pos c_25, if_pos c_26]) (by rw [m_X9_does, if_neg c_1, if_neg c_4, if_neg c_7, if_neg c_10, if_neg c_13, if_neg c_16, if_neg c_19, if_neg c_22, if_pos c_25, if_pos c_26])
    · skip
      refine lv_aload_n hx hb dX9_does_328 rfl (lv_at hl 0 rfl) ?_
      refine lv_iload_n hx hb dX9_does_329 rfl (lv_at hl 2 rfl) ?_
      refine muS (A0 := A) (wc := (wAr cy a0 r)) (As := [.ref a0, .int x2]) (rest := []) (c_X9_daysOn l D cy a0 r x2) hCF gX9_does_X9_daysOn rfl hd_X9_daysOn ⟨rfl, rfl, Nat.le_of_ble_eq_true rfl, Nat.le_of_ble_eq_true rfl⟩ hG hP hD hS hA [0] rfl c_Ar_Ar h_Ar rfl hl.1 rfl (Nat.le_of_ble_eq_true rfl) dX9_does_330 ⟨Nat.le_refl _, Nat.le_refl _⟩ (fun H locs hP hD hS => ?_)
      have hP : va_P D vwCl (wAr cy a0 (m_X9_daysOn r x2).2) H := va_P_eq hP r_Ar_Ar
      have hD : va_D A (wAr cy a0 (m_X9_daysOn r x2).2) := va_D_eq hD r_Ar_Ar
      refine lv_if_le (tgt := 340) hx hb dX9_does_333 (by decide) (fun c_27 => ?_) (fun c_27 => ?_)
      · skip
        refine lv_iconst (v := (0 : Int32)) hx hb dX9_does_340 (by decide) ?_
        exact mu_zret hx hb hr hlocks rfl hP hS dX9_does_341 (by rw [m_X9_does, if_neg c_1, if_neg c_4, if_neg c_7, if_neg c_10, if_neg c_13, if_neg c_16, if_neg c_19, if_neg c_22, if_pos c_25, if_neg c_26, if_pos c_27]) (by rw [m_X9_does, if_neg c_1, if_neg c_4, if_neg c_7, if_neg c_10, if_neg c_13, if_neg c_16, if_neg c_19, if_neg c_22, if_pos c_25, if_neg c_26, if_pos c_27])
      · skip
        refine lv_iconst (v := (1 : Int32)) hx hb dX9_does_336 (by decide) ?_
        refine lv_goto (tgt := 341) hx hb dX9_does_337 (by decide) ?_
        exact mu_zret hx hb hr hlocks rfl hP hS dX9_does_341 (by rw [m_X9_does, if_neg c_1, if_neg c_4, if_neg c_7, if_neg c_10, if_neg c_13, if_neg c_16, if_neg c_19, if_neg c_22, if_pos c_25, if_neg c_26, if_neg c_27]) (by rw [m_X9_does, if_neg c_1, if_neg c_4, if_neg c_7, if_neg c_10, if_neg c_13, if_neg c_16, if_neg c_19, if_neg c_22, if_pos c_25, if_neg c_26, if_neg c_27])
  by_cases c_28 : x1 = (106 : Int32)
  · refine lv_tableIn (tgt := 316) hx hb dX9_does_1 (by rw [c_28]; decide) (by rw [c_28]; decide) (by rw [c_28]; rfl) (by decide) ?_
    refine lv_iload_n hx hb dX9_does_316 rfl (lv_at hl 2 rfl) ?_
    refine lv_i2l hx hb dX9_does_317 rfl ?_
    refine lv_lconst (v := (1 : Int64)) hx hb dX9_does_318 (by decide) ?_
    refine lv_ldc2 (v := (99 : Int64)) hx hb hown k_0 dX9_does_319 ?_
    refine roS (wc := ([] : va_W)) (As := [.long x2.toInt64, .long (1 : Int64), .long (99 : Int64)]) (rest := []) (c_X9_in l D cy x2.toInt64 (1 : Int64) (99 : Int64)) hCF gX9_does_X9_in rfl hd_X9_in ⟨rfl, rfl, Nat.le_of_ble_eq_true rfl, Nat.le_of_ble_eq_true rfl⟩ hG va_P_nil rfl hl.1 rfl (Nat.le_of_ble_eq_true rfl) dX9_does_322 ⟨Nat.le_refl _, Nat.le_refl _⟩ ?_
    refine lv_if_eq (tgt := 340) hx hb dX9_does_325 (by decide) (fun c_29 => ?_) (fun c_29 => ?_)
    · skip
      refine lv_iconst (v := (0 : Int32)) hx hb dX9_does_340 (by decide) ?_
      exact mu_zret hx hb hr hlocks rfl hP hS dX9_does_341 (by rw [m_X9_does, if_neg c_1, if_neg c_4, if_neg c_7, if_neg c_10, if_neg c_13, if_neg c_16, if_neg c_19, if_neg c_22, if_neg c_25, if_pos c_28, if_pos c_29]) (by rw [m_X9_does, if_neg c_1, if_neg c_4, if_neg c_7, if_neg c_10, if_neg c_13, if_neg c_16, if_neg c_19, if_neg c_22, if_neg c_25, if_pos c_28, if_pos c_29])
    · skip
      refine lv_aload_n hx hb dX9_does_328 rfl (lv_at hl 0 rfl) ?_
      refine lv_iload_n hx hb dX9_does_329 rfl (lv_at hl 2 rfl) ?_
      refine muS (A0 := A) (wc := (wAr cy a0 r)) (As := [.ref a0, .int x2]) (rest := []) (c_X9_daysOn l D cy a0 r x2) hCF gX9_does_X9_daysOn rfl hd_X9_daysOn ⟨rfl, rfl, Nat.le_of_ble_eq_true rfl, Nat.le_of_ble_eq_true rfl⟩ hG hP hD hS hA [0] rfl c_Ar_Ar h_Ar rfl hl.1 rfl (Nat.le_of_ble_eq_true rfl) dX9_does_330 ⟨Nat.le_refl _, Nat.le_refl _⟩ (fun H locs hP hD hS => ?_)
      have hP : va_P D vwCl (wAr cy a0 (m_X9_daysOn r x2).2) H := va_P_eq hP r_Ar_Ar
      have hD : va_D A (wAr cy a0 (m_X9_daysOn r x2).2) := va_D_eq hD r_Ar_Ar
      refine lv_if_le (tgt := 340) hx hb dX9_does_333 (by decide) (fun c_30 => ?_) (fun c_30 => ?_)
      · skip
        refine lv_iconst (v := (0 : Int32)) hx hb dX9_does_340 (by decide) ?_
        exact mu_zret hx hb hr hlocks rfl hP hS dX9_does_341 (by rw [m_X9_does, if_neg c_1, if_neg c_4, if_neg c_7, if_neg c_10, if_neg c_13, if_neg c_16, if_neg c_19, if_neg c_22, if_neg c_25, if_pos c_28, if_neg c_29, if_pos c_30]) (by rw [m_X9_does, if_neg c_1, if_neg c_4, if_neg c_7, if_neg c_10, if_neg c_13, if_neg c_16, if_neg c_19, if_neg c_22, if_neg c_25, if_pos c_28, if_neg c_29, if_pos c_30])
      · skip
        refine lv_iconst (v := (1 : Int32)) hx hb dX9_does_336 (by decide) ?_
        refine lv_goto (tgt := 341) hx hb dX9_does_337 (by decide) ?_
        exact mu_zret hx hb hr hlocks rfl hP hS dX9_does_341 (by rw [m_X9_does, if_neg c_1, if_neg c_4, if_neg c_7, if_neg c_10, if_neg c_13, if_neg c_16, if_neg c_19, if_neg c_22, if_neg c_25, if_pos c_28, if_neg c_29, if_neg c_30]) (by rw [m_X9_does, if_neg c_1, if_neg c_4, if_neg c_7, if_neg c_10, if_neg c_13, if_neg c_16, if_neg c_19, if_neg c_22, if_neg c_25, if_pos c_28, if_neg c_29, if_neg c_30])
  by_cases c_31 : x1 = (107 : Int32)
  · refine lv_tableIn (tgt := 316) hx hb dX9_does_1 (by rw [c_31]; decide) (by rw [c_31]; decide) (by rw [c_31]; rfl) (by decide) ?_
    refine lv_iload_n hx hb dX9_does_316 rfl (lv_at hl 2 rfl) ?_
    refine lv_i2l hx hb dX9_does_317 rfl ?_
    refine lv_lconst (v := (1 : Int64)) hx hb dX9_does_318 (by decide) ?_
    refine lv_ldc2 (v := (99 : Int64)) hx hb hown k_0 dX9_does_319 ?_
    refine roS (wc := ([] : va_W)) (As := [.long x2.toInt64, .long (1 : Int64), .long (99 : Int64)]) (rest := []) (c_X9_in l D cy x2.toInt64 (1 : Int64) (99 : Int64)) hCF gX9_does_X9_in rfl hd_X9_in ⟨rfl, rfl, Nat.le_of_ble_eq_true rfl, Nat.le_of_ble_eq_true rfl⟩ hG va_P_nil rfl hl.1 rfl (Nat.le_of_ble_eq_true rfl) dX9_does_322 ⟨Nat.le_refl _, Nat.le_refl _⟩ ?_
    refine lv_if_eq (tgt := 340) hx hb dX9_does_325 (by decide) (fun c_32 => ?_) (fun c_32 => ?_)
    · skip
      refine lv_iconst (v := (0 : Int32)) hx hb dX9_does_340 (by decide) ?_
      exact mu_zret hx hb hr hlocks rfl hP hS dX9_does_341 (by rw [m_X9_does, if_neg c_1, if_neg c_4, if_neg c_7, if_neg c_10, if_neg c_13, if_neg c_16, if_neg c_19, if_neg c_22, if_neg c_25, if_neg c_28, if_pos c_31, if_pos c_32]) (by rw [m_X9_does, if_neg c_1, if_neg c_4, if_neg c_7, if_neg c_10, if_neg c_13, if_neg c_16, if_neg c_19, if_neg c_22, if_neg c_25, if_neg c_28, if_pos c_31, if_pos c_32])
    · skip
      refine lv_aload_n hx hb dX9_does_328 rfl (lv_at hl 0 rfl) ?_
      refine lv_iload_n hx hb dX9_does_329 rfl (lv_at hl 2 rfl) ?_
      refine muS (A0 := A) (wc := (wAr cy a0 r)) (As := [.ref a0, .int x2]) (rest := []) (c_X9_daysOn l D cy a0 r x2) hCF gX9_does_X9_daysOn rfl hd_X9_daysOn ⟨rfl, rfl, Nat.le_of_ble_eq_true rfl, Nat.le_of_ble_eq_true rfl⟩ hG hP hD hS hA [0] rfl c_Ar_Ar h_Ar rfl hl.1 rfl (Nat.le_of_ble_eq_true rfl) dX9_does_330 ⟨Nat.le_refl _, Nat.le_refl _⟩ (fun H locs hP hD hS => ?_)
      have hP : va_P D vwCl (wAr cy a0 (m_X9_daysOn r x2).2) H := va_P_eq hP r_Ar_Ar
      have hD : va_D A (wAr cy a0 (m_X9_daysOn r x2).2) := va_D_eq hD r_Ar_Ar
      refine lv_if_le (tgt := 340) hx hb dX9_does_333 (by decide) (fun c_33 => ?_) (fun c_33 => ?_)
      · skip
        refine lv_iconst (v := (0 : Int32)) hx hb dX9_does_340 (by decide) ?_
        exact mu_zret hx hb hr hlocks rfl hP hS dX9_does_341 (by rw [m_X9_does, if_neg c_1, if_neg c_4, if_neg c_7, if_neg c_10, if_neg c_13, if_neg c_16, if_neg c_19, if_neg c_22, if_neg c_25, if_neg c_28, if_pos c_31, if_neg c_32, if_pos c_33]) (by rw [m_X9_does, if_neg c_1, if_neg c_4, if_neg c_7, if_neg c_10, if_neg c_13, if_neg c_16, if_neg c_19, if_neg c_22, if_neg c_25, if_neg c_28, if_pos c_31, if_neg c_32, if_pos c_33])
      · skip
        refine lv_iconst (v := (1 : Int32)) hx hb dX9_does_336 (by decide) ?_
        refine lv_goto (tgt := 341) hx hb dX9_does_337 (by decide) ?_
        exact mu_zret hx hb hr hlocks rfl hP hS dX9_does_341 (by rw [m_X9_does, if_neg c_1, if_neg c_4, if_neg c_7, if_neg c_10, if_neg c_13, if_neg c_16, if_neg c_19, if_neg c_22, if_neg c_25, if_neg c_28, if_pos c_31, if_neg c_32, if_neg c_33]) (by rw [m_X9_does, if_neg c_1, if_neg c_4, if_neg c_7, if_neg c_10, if_neg c_13, if_neg c_16, if_neg c_19, if_neg c_22, if_neg c_25, if_neg c_28, if_pos c_31, if_neg c_32, if_neg c_33])
  by_cases c_34 : x1 = (108 : Int32)
  · refine lv_tableIn (tgt := 140) hx hb dX9_does_1 (by rw [c_34]; decide) (by rw [c_34]; decide) (by rw [c_34]; rfl) (by decide) ?_
    refine lv_aload_n hx hb dX9_does_140 rfl (lv_at hl 0 rfl) ?_
    refine lv_iload_n hx hb dX9_does_141 rfl (lv_at hl 2 rfl) ?_
    refine lv_iload_n hx hb dX9_does_142 rfl (lv_at hl 3 rfl) ?_
    refine lv_iload hx hb dX9_does_143 (lv_at hl 4 rfl) ?_
    refine roS (wc := (wAr cy a0 r)) (As := [.ref a0, .int x2, .int x3, .int x4]) (rest := []) (c_X9_whyNotLend l D cy a0 r x2 x3 x4 hR) hCF gX9_does_X9_whyNotLend rfl hd_X9_whyNotLend ⟨rfl, rfl, Nat.le_of_ble_eq_true rfl, Nat.le_of_ble_eq_true rfl⟩ hG hP rfl hl.1 rfl (Nat.le_of_ble_eq_true rfl) dX9_does_145 ⟨Nat.le_refl _, Nat.le_refl _⟩ ?_
    refine lv_if_ne (tgt := 166) hx hb dX9_does_148 (by decide) (fun c_35 => ?_) (fun c_35 => ?_)
    · skip
      refine lv_iconst (v := (0 : Int32)) hx hb dX9_does_166 (by decide) ?_
      exact mu_zret hx hb hr hlocks rfl hP hS dX9_does_167 (by rw [m_X9_does, if_neg c_1, if_neg c_4, if_neg c_7, if_neg c_10, if_neg c_13, if_neg c_16, if_neg c_19, if_neg c_22, if_neg c_25, if_neg c_28, if_neg c_31, if_pos c_34, if_neg c_35]) (by rw [m_X9_does, if_neg c_1, if_neg c_4, if_neg c_7, if_neg c_10, if_neg c_13, if_neg c_16, if_neg c_19, if_neg c_22, if_neg c_25, if_neg c_28, if_neg c_31, if_pos c_34, if_neg c_35])
    · skip
      refine lv_aload_n hx hb dX9_does_151 rfl (lv_at hl 0 rfl) ?_
      refine lv_iload_n hx hb dX9_does_152 rfl (lv_at hl 2 rfl) ?_
      refine lv_iload_n hx hb dX9_does_153 rfl (lv_at hl 3 rfl) ?_
      refine lv_iload hx hb dX9_does_154 (lv_at hl 4 rfl) ?_
      refine muS (A0 := A) (wc := (wAr cy a0 r)) (As := [.ref a0, .int x2, .int x3, .int x4]) (rest := []) (c_X9_lendOn l D cy a0 r x2 x3 x4 (wn_Lend_0 hR c_35)) hCF gX9_does_X9_lendOn rfl hd_X9_lendOn ⟨rfl, rfl, Nat.le_of_ble_eq_true rfl, Nat.le_of_ble_eq_true rfl⟩ hG hP hD hS hA [0] rfl c_Ar_Ar h_Ar rfl hl.1 rfl (Nat.le_of_ble_eq_true rfl) dX9_does_156 ⟨Nat.le_refl _, Nat.le_refl _⟩ (fun H locs hP hD hS => ?_)
      have hP : va_P D vwCl (wAr cy a0 (m_X9_lendOn r x2 x3 x4).2) H := va_P_eq hP r_Ar_Ar
      have hD : va_D A (wAr cy a0 (m_X9_lendOn r x2 x3 x4).2) := va_D_eq hD r_Ar_Ar
      refine lv_if_lt (tgt := 166) hx hb dX9_does_159 (by decide) (fun c_36 => ?_) (fun c_36 => ?_)
      · skip
        refine lv_iconst (v := (0 : Int32)) hx hb dX9_does_166 (by decide) ?_
        exact mu_zret hx hb hr hlocks rfl hP hS dX9_does_167 (by rw [m_X9_does, if_neg c_1, if_neg c_4, if_neg c_7, if_neg c_10, if_neg c_13, if_neg c_16, if_neg c_19, if_neg c_22, if_neg c_25, if_neg c_28, if_neg c_31, if_pos c_34, if_pos c_35, if_pos c_36]) (by rw [m_X9_does, if_neg c_1, if_neg c_4, if_neg c_7, if_neg c_10, if_neg c_13, if_neg c_16, if_neg c_19, if_neg c_22, if_neg c_25, if_neg c_28, if_neg c_31, if_pos c_34, if_pos c_35, if_pos c_36])
      · skip
        refine lv_iconst (v := (1 : Int32)) hx hb dX9_does_162 (by decide) ?_
        refine lv_goto (tgt := 167) hx hb dX9_does_163 (by decide) ?_
        exact mu_zret hx hb hr hlocks rfl hP hS dX9_does_167 (by rw [m_X9_does, if_neg c_1, if_neg c_4, if_neg c_7, if_neg c_10, if_neg c_13, if_neg c_16, if_neg c_19, if_neg c_22, if_neg c_25, if_neg c_28, if_neg c_31, if_pos c_34, if_pos c_35, if_neg c_36]) (by rw [m_X9_does, if_neg c_1, if_neg c_4, if_neg c_7, if_neg c_10, if_neg c_13, if_neg c_16, if_neg c_19, if_neg c_22, if_neg c_25, if_neg c_28, if_neg c_31, if_pos c_34, if_pos c_35, if_neg c_36])
  by_cases c_37 : x1 = (109 : Int32)
  · refine lv_tableIn (tgt := 316) hx hb dX9_does_1 (by rw [c_37]; decide) (by rw [c_37]; decide) (by rw [c_37]; rfl) (by decide) ?_
    refine lv_iload_n hx hb dX9_does_316 rfl (lv_at hl 2 rfl) ?_
    refine lv_i2l hx hb dX9_does_317 rfl ?_
    refine lv_lconst (v := (1 : Int64)) hx hb dX9_does_318 (by decide) ?_
    refine lv_ldc2 (v := (99 : Int64)) hx hb hown k_0 dX9_does_319 ?_
    refine roS (wc := ([] : va_W)) (As := [.long x2.toInt64, .long (1 : Int64), .long (99 : Int64)]) (rest := []) (c_X9_in l D cy x2.toInt64 (1 : Int64) (99 : Int64)) hCF gX9_does_X9_in rfl hd_X9_in ⟨rfl, rfl, Nat.le_of_ble_eq_true rfl, Nat.le_of_ble_eq_true rfl⟩ hG va_P_nil rfl hl.1 rfl (Nat.le_of_ble_eq_true rfl) dX9_does_322 ⟨Nat.le_refl _, Nat.le_refl _⟩ ?_
    refine lv_if_eq (tgt := 340) hx hb dX9_does_325 (by decide) (fun c_38 => ?_) (fun c_38 => ?_)
    · skip
      refine lv_iconst (v := (0 : Int32)) hx hb dX9_does_340 (by decide) ?_
      exact mu_zret hx hb hr hlocks rfl hP hS dX9_does_341 (by rw [m_X9_does, if_neg c_1, if_neg c_4, if_neg c_7, if_neg c_10, if_neg c_13, if_neg c_16, if_neg c_19, if_neg c_22, if_neg c_25, if_neg c_28, if_neg c_31, if_neg c_34, if_pos c_37, if_pos c_38]) (by rw [m_X9_does, if_neg c_1, if_neg c_4, if_neg c_7, if_neg c_10, if_neg c_13, if_neg c_16, if_neg c_19, if_neg c_22, if_neg c_25, if_neg c_28, if_neg c_31, if_neg c_34, if_pos c_37, if_pos c_38])
    · skip
      refine lv_aload_n hx hb dX9_does_328 rfl (lv_at hl 0 rfl) ?_
      refine lv_iload_n hx hb dX9_does_329 rfl (lv_at hl 2 rfl) ?_
      refine muS (A0 := A) (wc := (wAr cy a0 r)) (As := [.ref a0, .int x2]) (rest := []) (c_X9_daysOn l D cy a0 r x2) hCF gX9_does_X9_daysOn rfl hd_X9_daysOn ⟨rfl, rfl, Nat.le_of_ble_eq_true rfl, Nat.le_of_ble_eq_true rfl⟩ hG hP hD hS hA [0] rfl c_Ar_Ar h_Ar rfl hl.1 rfl (Nat.le_of_ble_eq_true rfl) dX9_does_330 ⟨Nat.le_refl _, Nat.le_refl _⟩ (fun H locs hP hD hS => ?_)
      have hP : va_P D vwCl (wAr cy a0 (m_X9_daysOn r x2).2) H := va_P_eq hP r_Ar_Ar
      have hD : va_D A (wAr cy a0 (m_X9_daysOn r x2).2) := va_D_eq hD r_Ar_Ar
      refine lv_if_le (tgt := 340) hx hb dX9_does_333 (by decide) (fun c_39 => ?_) (fun c_39 => ?_)
      · skip
        refine lv_iconst (v := (0 : Int32)) hx hb dX9_does_340 (by decide) ?_
        exact mu_zret hx hb hr hlocks rfl hP hS dX9_does_341 (by rw [m_X9_does, if_neg c_1, if_neg c_4, if_neg c_7, if_neg c_10, if_neg c_13, if_neg c_16, if_neg c_19, if_neg c_22, if_neg c_25, if_neg c_28, if_neg c_31, if_neg c_34, if_pos c_37, if_neg c_38, if_pos c_39]) (by rw [m_X9_does, if_neg c_1, if_neg c_4, if_neg c_7, if_neg c_10, if_neg c_13, if_neg c_16, if_neg c_19, if_neg c_22, if_neg c_25, if_neg c_28, if_neg c_31, if_neg c_34, if_pos c_37, if_neg c_38, if_pos c_39])
      · skip
        refine lv_iconst (v := (1 : Int32)) hx hb dX9_does_336 (by decide) ?_
        refine lv_goto (tgt := 341) hx hb dX9_does_337 (by decide) ?_
        exact mu_zret hx hb hr hlocks rfl hP hS dX9_does_341 (by rw [m_X9_does, if_neg c_1, if_neg c_4, if_neg c_7, if_neg c_10, if_neg c_13, if_neg c_16, if_neg c_19, if_neg c_22, if_neg c_25, if_neg c_28, if_neg c_31, if_neg c_34, if_pos c_37, if_neg c_38, if_neg c_39]) (by rw [m_X9_does, if_neg c_1, if_neg c_4, if_neg c_7, if_neg c_10, if_neg c_13, if_neg c_16, if_neg c_19, if_neg c_22, if_neg c_25, if_neg c_28, if_neg c_31, if_neg c_34, if_pos c_37, if_neg c_38, if_neg c_39])
  by_cases c_40 : x1 = (110 : Int32)
  · refine lv_tableIn (tgt := 112) hx hb dX9_does_1 (by rw [c_40]; decide) (by rw [c_40]; decide) (by rw [c_40]; rfl) (by decide) ?_
    refine lv_aload_n hx hb dX9_does_112 rfl (lv_at hl 0 rfl) ?_
    refine lv_iload_n hx hb dX9_does_113 rfl (lv_at hl 2 rfl) ?_
    refine lv_iload_n hx hb dX9_does_114 rfl (lv_at hl 3 rfl) ?_
    refine lv_iload hx hb dX9_does_115 (lv_at hl 4 rfl) ?_
    refine roS (wc := (wAr cy a0 r)) (As := [.ref a0, .int x2, .int x3, .int x4]) (rest := []) (c_X9_whyNotCome l D cy a0 r x2 x3 x4) hCF gX9_does_X9_whyNotCome rfl hd_X9_whyNotCome ⟨rfl, rfl, Nat.le_of_ble_eq_true rfl, Nat.le_of_ble_eq_true rfl⟩ hG hP rfl hl.1 rfl (Nat.le_of_ble_eq_true rfl) dX9_does_117 ⟨Nat.le_refl _, Nat.le_refl _⟩ ?_
    refine lv_if_ne (tgt := 138) hx hb dX9_does_120 (by decide) (fun c_41 => ?_) (fun c_41 => ?_)
    · skip
      refine lv_iconst (v := (0 : Int32)) hx hb dX9_does_138 (by decide) ?_
      exact mu_zret hx hb hr hlocks rfl hP hS dX9_does_139 (by rw [m_X9_does, if_neg c_1, if_neg c_4, if_neg c_7, if_neg c_10, if_neg c_13, if_neg c_16, if_neg c_19, if_neg c_22, if_neg c_25, if_neg c_28, if_neg c_31, if_neg c_34, if_neg c_37, if_pos c_40, if_neg c_41]) (by rw [m_X9_does, if_neg c_1, if_neg c_4, if_neg c_7, if_neg c_10, if_neg c_13, if_neg c_16, if_neg c_19, if_neg c_22, if_neg c_25, if_neg c_28, if_neg c_31, if_neg c_34, if_neg c_37, if_pos c_40, if_neg c_41])
    · skip
      refine lv_aload_n hx hb dX9_does_123 rfl (lv_at hl 0 rfl) ?_
      refine lv_iload_n hx hb dX9_does_124 rfl (lv_at hl 2 rfl) ?_
      refine lv_iload_n hx hb dX9_does_125 rfl (lv_at hl 3 rfl) ?_
      refine lv_iload hx hb dX9_does_126 (lv_at hl 4 rfl) ?_
      refine muS (A0 := A) (wc := (wAr cy a0 r)) (As := [.ref a0, .int x2, .int x3, .int x4]) (rest := []) (c_X9_comeOn l D cy a0 r x2 x3 x4 (wn_Come_n hR c_41)) hCF gX9_does_X9_comeOn rfl hd_X9_comeOn ⟨rfl, rfl, Nat.le_of_ble_eq_true rfl, Nat.le_of_ble_eq_true rfl⟩ hG hP hD hS hA [0] rfl c_Ar_Ar h_Ar rfl hl.1 rfl (Nat.le_of_ble_eq_true rfl) dX9_does_128 ⟨Nat.le_refl _, Nat.le_refl _⟩ (fun H locs hP hD hS => ?_)
      have hP : va_P D vwCl (wAr cy a0 (m_X9_comeOn r x2 x3 x4).2) H := va_P_eq hP r_Ar_Ar
      have hD : va_D A (wAr cy a0 (m_X9_comeOn r x2 x3 x4).2) := va_D_eq hD r_Ar_Ar
      refine lv_if_lt (tgt := 138) hx hb dX9_does_131 (by decide) (fun c_42 => ?_) (fun c_42 => ?_)
      · skip
        refine lv_iconst (v := (0 : Int32)) hx hb dX9_does_138 (by decide) ?_
        exact mu_zret hx hb hr hlocks rfl hP hS dX9_does_139 (by rw [m_X9_does, if_neg c_1, if_neg c_4, if_neg c_7, if_neg c_10, if_neg c_13, if_neg c_16, if_neg c_19, if_neg c_22, if_neg c_25, if_neg c_28, if_neg c_31, if_neg c_34, if_neg c_37, if_pos c_40, if_pos c_41, if_pos c_42]) (by rw [m_X9_does, if_neg c_1, if_neg c_4, if_neg c_7, if_neg c_10, if_neg c_13, if_neg c_16, if_neg c_19, if_neg c_22, if_neg c_25, if_neg c_28, if_neg c_31, if_neg c_34, if_neg c_37, if_pos c_40, if_pos c_41, if_pos c_42])
      · skip
        refine lv_iconst (v := (1 : Int32)) hx hb dX9_does_134 (by decide) ?_
        refine lv_goto (tgt := 139) hx hb dX9_does_135 (by decide) ?_
        exact mu_zret hx hb hr hlocks rfl hP hS dX9_does_139 (by rw [m_X9_does, if_neg c_1, if_neg c_4, if_neg c_7, if_neg c_10, if_neg c_13, if_neg c_16, if_neg c_19, if_neg c_22, if_neg c_25, if_neg c_28, if_neg c_31, if_neg c_34, if_neg c_37, if_pos c_40, if_pos c_41, if_neg c_42]) (by rw [m_X9_does, if_neg c_1, if_neg c_4, if_neg c_7, if_neg c_10, if_neg c_13, if_neg c_16, if_neg c_19, if_neg c_22, if_neg c_25, if_neg c_28, if_neg c_31, if_neg c_34, if_neg c_37, if_pos c_40, if_pos c_41, if_neg c_42])
  by_cases c_43 : x1 = (111 : Int32)
  · refine lv_tableIn (tgt := 316) hx hb dX9_does_1 (by rw [c_43]; decide) (by rw [c_43]; decide) (by rw [c_43]; rfl) (by decide) ?_
    refine lv_iload_n hx hb dX9_does_316 rfl (lv_at hl 2 rfl) ?_
    refine lv_i2l hx hb dX9_does_317 rfl ?_
    refine lv_lconst (v := (1 : Int64)) hx hb dX9_does_318 (by decide) ?_
    refine lv_ldc2 (v := (99 : Int64)) hx hb hown k_0 dX9_does_319 ?_
    refine roS (wc := ([] : va_W)) (As := [.long x2.toInt64, .long (1 : Int64), .long (99 : Int64)]) (rest := []) (c_X9_in l D cy x2.toInt64 (1 : Int64) (99 : Int64)) hCF gX9_does_X9_in rfl hd_X9_in ⟨rfl, rfl, Nat.le_of_ble_eq_true rfl, Nat.le_of_ble_eq_true rfl⟩ hG va_P_nil rfl hl.1 rfl (Nat.le_of_ble_eq_true rfl) dX9_does_322 ⟨Nat.le_refl _, Nat.le_refl _⟩ ?_
    refine lv_if_eq (tgt := 340) hx hb dX9_does_325 (by decide) (fun c_44 => ?_) (fun c_44 => ?_)
    · skip
      refine lv_iconst (v := (0 : Int32)) hx hb dX9_does_340 (by decide) ?_
      exact mu_zret hx hb hr hlocks rfl hP hS dX9_does_341 (by rw [m_X9_does, if_neg c_1, if_neg c_4, if_neg c_7, if_neg c_10, if_neg c_13, if_neg c_16, if_neg c_19, if_neg c_22, if_neg c_25, if_neg c_28, if_neg c_31, if_neg c_34, if_neg c_37, if_neg c_40, if_pos c_43, if_pos c_44]) (by rw [m_X9_does, if_neg c_1, if_neg c_4, if_neg c_7, if_neg c_10, if_neg c_13, if_neg c_16, if_neg c_19, if_neg c_22, if_neg c_25, if_neg c_28, if_neg c_31, if_neg c_34, if_neg c_37, if_neg c_40, if_pos c_43, if_pos c_44])
    · skip
      refine lv_aload_n hx hb dX9_does_328 rfl (lv_at hl 0 rfl) ?_
      refine lv_iload_n hx hb dX9_does_329 rfl (lv_at hl 2 rfl) ?_
      refine muS (A0 := A) (wc := (wAr cy a0 r)) (As := [.ref a0, .int x2]) (rest := []) (c_X9_daysOn l D cy a0 r x2) hCF gX9_does_X9_daysOn rfl hd_X9_daysOn ⟨rfl, rfl, Nat.le_of_ble_eq_true rfl, Nat.le_of_ble_eq_true rfl⟩ hG hP hD hS hA [0] rfl c_Ar_Ar h_Ar rfl hl.1 rfl (Nat.le_of_ble_eq_true rfl) dX9_does_330 ⟨Nat.le_refl _, Nat.le_refl _⟩ (fun H locs hP hD hS => ?_)
      have hP : va_P D vwCl (wAr cy a0 (m_X9_daysOn r x2).2) H := va_P_eq hP r_Ar_Ar
      have hD : va_D A (wAr cy a0 (m_X9_daysOn r x2).2) := va_D_eq hD r_Ar_Ar
      refine lv_if_le (tgt := 340) hx hb dX9_does_333 (by decide) (fun c_45 => ?_) (fun c_45 => ?_)
      · skip
        refine lv_iconst (v := (0 : Int32)) hx hb dX9_does_340 (by decide) ?_
        exact mu_zret hx hb hr hlocks rfl hP hS dX9_does_341 (by rw [m_X9_does, if_neg c_1, if_neg c_4, if_neg c_7, if_neg c_10, if_neg c_13, if_neg c_16, if_neg c_19, if_neg c_22, if_neg c_25, if_neg c_28, if_neg c_31, if_neg c_34, if_neg c_37, if_neg c_40, if_pos c_43, if_neg c_44, if_pos c_45]) (by rw [m_X9_does, if_neg c_1, if_neg c_4, if_neg c_7, if_neg c_10, if_neg c_13, if_neg c_16, if_neg c_19, if_neg c_22, if_neg c_25, if_neg c_28, if_neg c_31, if_neg c_34, if_neg c_37, if_neg c_40, if_pos c_43, if_neg c_44, if_pos c_45])
      · skip
        refine lv_iconst (v := (1 : Int32)) hx hb dX9_does_336 (by decide) ?_
        refine lv_goto (tgt := 341) hx hb dX9_does_337 (by decide) ?_
        exact mu_zret hx hb hr hlocks rfl hP hS dX9_does_341 (by rw [m_X9_does, if_neg c_1, if_neg c_4, if_neg c_7, if_neg c_10, if_neg c_13, if_neg c_16, if_neg c_19, if_neg c_22, if_neg c_25, if_neg c_28, if_neg c_31, if_neg c_34, if_neg c_37, if_neg c_40, if_pos c_43, if_neg c_44, if_neg c_45]) (by rw [m_X9_does, if_neg c_1, if_neg c_4, if_neg c_7, if_neg c_10, if_neg c_13, if_neg c_16, if_neg c_19, if_neg c_22, if_neg c_25, if_neg c_28, if_neg c_31, if_neg c_34, if_neg c_37, if_neg c_40, if_pos c_43, if_neg c_44, if_neg c_45])
  by_cases c_46 : x1 = (112 : Int32)
  · refine lv_tableIn (tgt := 316) hx hb dX9_does_1 (by rw [c_46]; decide) (by rw [c_46]; decide) (by rw [c_46]; rfl) (by decide) ?_
    refine lv_iload_n hx hb dX9_does_316 rfl (lv_at hl 2 rfl) ?_
    refine lv_i2l hx hb dX9_does_317 rfl ?_
    refine lv_lconst (v := (1 : Int64)) hx hb dX9_does_318 (by decide) ?_
    refine lv_ldc2 (v := (99 : Int64)) hx hb hown k_0 dX9_does_319 ?_
    refine roS (wc := ([] : va_W)) (As := [.long x2.toInt64, .long (1 : Int64), .long (99 : Int64)]) (rest := []) (c_X9_in l D cy x2.toInt64 (1 : Int64) (99 : Int64)) hCF gX9_does_X9_in rfl hd_X9_in ⟨rfl, rfl, Nat.le_of_ble_eq_true rfl, Nat.le_of_ble_eq_true rfl⟩ hG va_P_nil rfl hl.1 rfl (Nat.le_of_ble_eq_true rfl) dX9_does_322 ⟨Nat.le_refl _, Nat.le_refl _⟩ ?_
    refine lv_if_eq (tgt := 340) hx hb dX9_does_325 (by decide) (fun c_47 => ?_) (fun c_47 => ?_)
    · skip
      refine lv_iconst (v := (0 : Int32)) hx hb dX9_does_340 (by decide) ?_
      exact mu_zret hx hb hr hlocks rfl hP hS dX9_does_341 (by rw [m_X9_does, if_neg c_1, if_neg c_4, if_neg c_7, if_neg c_10, if_neg c_13, if_neg c_16, if_neg c_19, if_neg c_22, if_neg c_25, if_neg c_28, if_neg c_31, if_neg c_34, if_neg c_37, if_neg c_40, if_neg c_43, if_pos c_46, if_pos c_47]) (by rw [m_X9_does, if_neg c_1, if_neg c_4, if_neg c_7, if_neg c_10, if_neg c_13, if_neg c_16, if_neg c_19, if_neg c_22, if_neg c_25, if_neg c_28, if_neg c_31, if_neg c_34, if_neg c_37, if_neg c_40, if_neg c_43, if_pos c_46, if_pos c_47])
    · skip
      refine lv_aload_n hx hb dX9_does_328 rfl (lv_at hl 0 rfl) ?_
      refine lv_iload_n hx hb dX9_does_329 rfl (lv_at hl 2 rfl) ?_
      refine muS (A0 := A) (wc := (wAr cy a0 r)) (As := [.ref a0, .int x2]) (rest := []) (c_X9_daysOn l D cy a0 r x2) hCF gX9_does_X9_daysOn rfl hd_X9_daysOn ⟨rfl, rfl, Nat.le_of_ble_eq_true rfl, Nat.le_of_ble_eq_true rfl⟩ hG hP hD hS hA [0] rfl c_Ar_Ar h_Ar rfl hl.1 rfl (Nat.le_of_ble_eq_true rfl) dX9_does_330 ⟨Nat.le_refl _, Nat.le_refl _⟩ (fun H locs hP hD hS => ?_)
      have hP : va_P D vwCl (wAr cy a0 (m_X9_daysOn r x2).2) H := va_P_eq hP r_Ar_Ar
      have hD : va_D A (wAr cy a0 (m_X9_daysOn r x2).2) := va_D_eq hD r_Ar_Ar
      refine lv_if_le (tgt := 340) hx hb dX9_does_333 (by decide) (fun c_48 => ?_) (fun c_48 => ?_)
      · skip
        refine lv_iconst (v := (0 : Int32)) hx hb dX9_does_340 (by decide) ?_
        exact mu_zret hx hb hr hlocks rfl hP hS dX9_does_341 (by rw [m_X9_does, if_neg c_1, if_neg c_4, if_neg c_7, if_neg c_10, if_neg c_13, if_neg c_16, if_neg c_19, if_neg c_22, if_neg c_25, if_neg c_28, if_neg c_31, if_neg c_34, if_neg c_37, if_neg c_40, if_neg c_43, if_pos c_46, if_neg c_47, if_pos c_48]) (by rw [m_X9_does, if_neg c_1, if_neg c_4, if_neg c_7, if_neg c_10, if_neg c_13, if_neg c_16, if_neg c_19, if_neg c_22, if_neg c_25, if_neg c_28, if_neg c_31, if_neg c_34, if_neg c_37, if_neg c_40, if_neg c_43, if_pos c_46, if_neg c_47, if_pos c_48])
      · skip
        refine lv_iconst (v := (1 : Int32)) hx hb dX9_does_336 (by decide) ?_
        refine lv_goto (tgt := 341) hx hb dX9_does_337 (by decide) ?_
        exact mu_zret hx hb hr hlocks rfl hP hS dX9_does_341 (by rw [m_X9_does, if_neg c_1, if_neg c_4, if_neg c_7, if_neg c_10, if_neg c_13, if_neg c_16, if_neg c_19, if_neg c_22, if_neg c_25, if_neg c_28, if_neg c_31, if_neg c_34, if_neg c_37, if_neg c_40, if_neg c_43, if_pos c_46, if_neg c_47, if_neg c_48]) (by rw [m_X9_does, if_neg c_1, if_neg c_4, if_neg c_7, if_neg c_10, if_neg c_13, if_neg c_16, if_neg c_19, if_neg c_22, if_neg c_25, if_neg c_28, if_neg c_31, if_neg c_34, if_neg c_37, if_neg c_40, if_neg c_43, if_pos c_46, if_neg c_47, if_neg c_48])
  by_cases c_49 : x1 = (113 : Int32)
  · refine lv_tableIn (tgt := 316) hx hb dX9_does_1 (by rw [c_49]; decide) (by rw [c_49]; decide) (by rw [c_49]; rfl) (by decide) ?_
    refine lv_iload_n hx hb dX9_does_316 rfl (lv_at hl 2 rfl) ?_
    refine lv_i2l hx hb dX9_does_317 rfl ?_
    refine lv_lconst (v := (1 : Int64)) hx hb dX9_does_318 (by decide) ?_
    refine lv_ldc2 (v := (99 : Int64)) hx hb hown k_0 dX9_does_319 ?_
    refine roS (wc := ([] : va_W)) (As := [.long x2.toInt64, .long (1 : Int64), .long (99 : Int64)]) (rest := []) (c_X9_in l D cy x2.toInt64 (1 : Int64) (99 : Int64)) hCF gX9_does_X9_in rfl hd_X9_in ⟨rfl, rfl, Nat.le_of_ble_eq_true rfl, Nat.le_of_ble_eq_true rfl⟩ hG va_P_nil rfl hl.1 rfl (Nat.le_of_ble_eq_true rfl) dX9_does_322 ⟨Nat.le_refl _, Nat.le_refl _⟩ ?_
    refine lv_if_eq (tgt := 340) hx hb dX9_does_325 (by decide) (fun c_50 => ?_) (fun c_50 => ?_)
    · skip
      refine lv_iconst (v := (0 : Int32)) hx hb dX9_does_340 (by decide) ?_
      exact mu_zret hx hb hr hlocks rfl hP hS dX9_does_341 (by rw [m_X9_does, if_neg c_1, if_neg c_4, if_neg c_7, if_neg c_10, if_neg c_13, if_neg c_16, if_neg c_19, if_neg c_22, if_neg c_25, if_neg c_28, if_neg c_31, if_neg c_34, if_neg c_37, if_neg c_40, if_neg c_43, if_neg c_46, if_pos c_49, if_pos c_50]) (by rw [m_X9_does, if_neg c_1, if_neg c_4, if_neg c_7, if_neg c_10, if_neg c_13, if_neg c_16, if_neg c_19, if_neg c_22, if_neg c_25, if_neg c_28, if_neg c_31, if_neg c_34, if_neg c_37, if_neg c_40, if_neg c_43, if_neg c_46, if_pos c_49, if_pos c_50])
    · skip
      refine lv_aload_n hx hb dX9_does_328 rfl (lv_at hl 0 rfl) ?_
      refine lv_iload_n hx hb dX9_does_329 rfl (lv_at hl 2 rfl) ?_
      refine muS (A0 := A) (wc := (wAr cy a0 r)) (As := [.ref a0, .int x2]) (rest := []) (c_X9_daysOn l D cy a0 r x2) hCF gX9_does_X9_daysOn rfl hd_X9_daysOn ⟨rfl, rfl, Nat.le_of_ble_eq_true rfl, Nat.le_of_ble_eq_true rfl⟩ hG hP hD hS hA [0] rfl c_Ar_Ar h_Ar rfl hl.1 rfl (Nat.le_of_ble_eq_true rfl) dX9_does_330 ⟨Nat.le_refl _, Nat.le_refl _⟩ (fun H locs hP hD hS => ?_)
      have hP : va_P D vwCl (wAr cy a0 (m_X9_daysOn r x2).2) H := va_P_eq hP r_Ar_Ar
      have hD : va_D A (wAr cy a0 (m_X9_daysOn r x2).2) := va_D_eq hD r_Ar_Ar
      refine lv_if_le (tgt := 340) hx hb dX9_does_333 (by decide) (fun c_51 => ?_) (fun c_51 => ?_)
      · skip
        refine lv_iconst (v := (0 : Int32)) hx hb dX9_does_340 (by decide) ?_
        exact mu_zret hx hb hr hlocks rfl hP hS dX9_does_341 (by rw [m_X9_does, if_neg c_1, if_neg c_4, if_neg c_7, if_neg c_10, if_neg c_13, if_neg c_16, if_neg c_19, if_neg c_22, if_neg c_25, if_neg c_28, if_neg c_31, if_neg c_34, if_neg c_37, if_neg c_40, if_neg c_43, if_neg c_46, if_pos c_49, if_neg c_50, if_pos c_51]) (by rw [m_X9_does, if_neg c_1, if_neg c_4, if_neg c_7, if_neg c_10, if_neg c_13, if_neg c_16, if_neg c_19, if_neg c_22, if_neg c_25, if_neg c_28, if_neg c_31, if_neg c_34, if_neg c_37, if_neg c_40, if_neg c_43, if_neg c_46, if_pos c_49, if_neg c_50, if_pos c_51])
      · skip
        refine lv_iconst (v := (1 : Int32)) hx hb dX9_does_336 (by decide) ?_
        refine lv_goto (tgt := 341) hx hb dX9_does_337 (by decide) ?_
        exact mu_zret hx hb hr hlocks rfl hP hS dX9_does_341 (by rw [m_X9_does, if_neg c_1, if_neg c_4, if_neg c_7, if_neg c_10, if_neg c_13, if_neg c_16, if_neg c_19, if_neg c_22, if_neg c_25, if_neg c_28, if_neg c_31, if_neg c_34, if_neg c_37, if_neg c_40, if_neg c_43, if_neg c_46, if_pos c_49, if_neg c_50, if_neg c_51]) (by rw [m_X9_does, if_neg c_1, if_neg c_4, if_neg c_7, if_neg c_10, if_neg c_13, if_neg c_16, if_neg c_19, if_neg c_22, if_neg c_25, if_neg c_28, if_neg c_31, if_neg c_34, if_neg c_37, if_neg c_40, if_neg c_43, if_neg c_46, if_pos c_49, if_neg c_50, if_neg c_51])
  by_cases c_52 : x1 = (114 : Int32)
  · refine lv_tableIn (tgt := 168) hx hb dX9_does_1 (by rw [c_52]; decide) (by rw [c_52]; decide) (by rw [c_52]; rfl) (by decide) ?_
    refine lv_aload_n hx hb dX9_does_168 rfl (lv_at hl 0 rfl) ?_
    refine lv_iload_n hx hb dX9_does_169 rfl (lv_at hl 2 rfl) ?_
    refine roS (wc := (wAr cy a0 r)) (As := [.ref a0, .int x2]) (rest := []) (c_X9_whyNotBring l D cy a0 r x2 hR) hCF gX9_does_X9_whyNotBring rfl hd_X9_whyNotBring ⟨rfl, rfl, Nat.le_of_ble_eq_true rfl, Nat.le_of_ble_eq_true rfl⟩ hG hP rfl hl.1 rfl (Nat.le_of_ble_eq_true rfl) dX9_does_170 ⟨Nat.le_refl _, Nat.le_refl _⟩ ?_
    refine lv_if_ne (tgt := 188) hx hb dX9_does_173 (by decide) (fun c_53 => ?_) (fun c_53 => ?_)
    · skip
      refine lv_iconst (v := (0 : Int32)) hx hb dX9_does_188 (by decide) ?_
      exact mu_zret hx hb hr hlocks rfl hP hS dX9_does_189 (by rw [m_X9_does, if_neg c_1, if_neg c_4, if_neg c_7, if_neg c_10, if_neg c_13, if_neg c_16, if_neg c_19, if_neg c_22, if_neg c_25, if_neg c_28, if_neg c_31, if_neg c_34, if_neg c_37, if_neg c_40, if_neg c_43, if_neg c_46, if_neg c_49, if_pos c_52, if_neg c_53]) (by rw [m_X9_does, if_neg c_1, if_neg c_4, if_neg c_7, if_neg c_10, if_neg c_13, if_neg c_16, if_neg c_19, if_neg c_22, if_neg c_25, if_neg c_28, if_neg c_31, if_neg c_34, if_neg c_37, if_neg c_40, if_neg c_43, if_neg c_46, if_neg c_49, if_pos c_52, if_neg c_53])
    · skip
      refine lv_aload_n hx hb dX9_does_176 rfl (lv_at hl 0 rfl) ?_
      refine lv_iload_n hx hb dX9_does_177 rfl (lv_at hl 2 rfl) ?_
      refine muS (A0 := A) (wc := (wAr cy a0 r)) (As := [.ref a0, .int x2]) (rest := []) (c_X9_bringOn l D cy a0 r x2 hR (wn_Bring_0 hR c_53)) hCF gX9_does_X9_bringOn rfl hd_X9_bringOn ⟨rfl, rfl, Nat.le_of_ble_eq_true rfl, Nat.le_of_ble_eq_true rfl⟩ hG hP hD hS hA [0] rfl c_Ar_Ar h_Ar rfl hl.1 rfl (Nat.le_of_ble_eq_true rfl) dX9_does_178 ⟨Nat.le_refl _, Nat.le_refl _⟩ (fun H locs hP hD hS => ?_)
      have hP : va_P D vwCl (wAr cy a0 (m_X9_bringOn r x2).2) H := va_P_eq hP r_Ar_Ar
      have hD : va_D A (wAr cy a0 (m_X9_bringOn r x2).2) := va_D_eq hD r_Ar_Ar
      refine lv_if_lt (tgt := 188) hx hb dX9_does_181 (by decide) (fun c_54 => ?_) (fun c_54 => ?_)
      · skip
        refine lv_iconst (v := (0 : Int32)) hx hb dX9_does_188 (by decide) ?_
        exact mu_zret hx hb hr hlocks rfl hP hS dX9_does_189 (by rw [m_X9_does, if_neg c_1, if_neg c_4, if_neg c_7, if_neg c_10, if_neg c_13, if_neg c_16, if_neg c_19, if_neg c_22, if_neg c_25, if_neg c_28, if_neg c_31, if_neg c_34, if_neg c_37, if_neg c_40, if_neg c_43, if_neg c_46, if_neg c_49, if_pos c_52, if_pos c_53, if_pos c_54]) (by rw [m_X9_does, if_neg c_1, if_neg c_4, if_neg c_7, if_neg c_10, if_neg c_13, if_neg c_16, if_neg c_19, if_neg c_22, if_neg c_25, if_neg c_28, if_neg c_31, if_neg c_34, if_neg c_37, if_neg c_40, if_neg c_43, if_neg c_46, if_neg c_49, if_pos c_52, if_pos c_53, if_pos c_54])
      · skip
        refine lv_iconst (v := (1 : Int32)) hx hb dX9_does_184 (by decide) ?_
        refine lv_goto (tgt := 189) hx hb dX9_does_185 (by decide) ?_
        exact mu_zret hx hb hr hlocks rfl hP hS dX9_does_189 (by rw [m_X9_does, if_neg c_1, if_neg c_4, if_neg c_7, if_neg c_10, if_neg c_13, if_neg c_16, if_neg c_19, if_neg c_22, if_neg c_25, if_neg c_28, if_neg c_31, if_neg c_34, if_neg c_37, if_neg c_40, if_neg c_43, if_neg c_46, if_neg c_49, if_pos c_52, if_pos c_53, if_neg c_54]) (by rw [m_X9_does, if_neg c_1, if_neg c_4, if_neg c_7, if_neg c_10, if_neg c_13, if_neg c_16, if_neg c_19, if_neg c_22, if_neg c_25, if_neg c_28, if_neg c_31, if_neg c_34, if_neg c_37, if_neg c_40, if_neg c_43, if_neg c_46, if_neg c_49, if_pos c_52, if_pos c_53, if_neg c_54])
  by_cases c_55 : x1 = (115 : Int32)
  · refine lv_tableIn (tgt := 316) hx hb dX9_does_1 (by rw [c_55]; decide) (by rw [c_55]; decide) (by rw [c_55]; rfl) (by decide) ?_
    refine lv_iload_n hx hb dX9_does_316 rfl (lv_at hl 2 rfl) ?_
    refine lv_i2l hx hb dX9_does_317 rfl ?_
    refine lv_lconst (v := (1 : Int64)) hx hb dX9_does_318 (by decide) ?_
    refine lv_ldc2 (v := (99 : Int64)) hx hb hown k_0 dX9_does_319 ?_
    refine roS (wc := ([] : va_W)) (As := [.long x2.toInt64, .long (1 : Int64), .long (99 : Int64)]) (rest := []) (c_X9_in l D cy x2.toInt64 (1 : Int64) (99 : Int64)) hCF gX9_does_X9_in rfl hd_X9_in ⟨rfl, rfl, Nat.le_of_ble_eq_true rfl, Nat.le_of_ble_eq_true rfl⟩ hG va_P_nil rfl hl.1 rfl (Nat.le_of_ble_eq_true rfl) dX9_does_322 ⟨Nat.le_refl _, Nat.le_refl _⟩ ?_
    refine lv_if_eq (tgt := 340) hx hb dX9_does_325 (by decide) (fun c_56 => ?_) (fun c_56 => ?_)
    · skip
      refine lv_iconst (v := (0 : Int32)) hx hb dX9_does_340 (by decide) ?_
      exact mu_zret hx hb hr hlocks rfl hP hS dX9_does_341 (by rw [m_X9_does, if_neg c_1, if_neg c_4, if_neg c_7, if_neg c_10, if_neg c_13, if_neg c_16, if_neg c_19, if_neg c_22, if_neg c_25, if_neg c_28, if_neg c_31, if_neg c_34, if_neg c_37, if_neg c_40, if_neg c_43, if_neg c_46, if_neg c_49, if_neg c_52, if_pos c_55, if_pos c_56]) (by rw [m_X9_does, if_neg c_1, if_neg c_4, if_neg c_7, if_neg c_10, if_neg c_13, if_neg c_16, if_neg c_19, if_neg c_22, if_neg c_25, if_neg c_28, if_neg c_31, if_neg c_34, if_neg c_37, if_neg c_40, if_neg c_43, if_neg c_46, if_neg c_49, if_neg c_52, if_pos c_55, if_pos c_56])
    · skip
      refine lv_aload_n hx hb dX9_does_328 rfl (lv_at hl 0 rfl) ?_
      refine lv_iload_n hx hb dX9_does_329 rfl (lv_at hl 2 rfl) ?_
      refine muS (A0 := A) (wc := (wAr cy a0 r)) (As := [.ref a0, .int x2]) (rest := []) (c_X9_daysOn l D cy a0 r x2) hCF gX9_does_X9_daysOn rfl hd_X9_daysOn ⟨rfl, rfl, Nat.le_of_ble_eq_true rfl, Nat.le_of_ble_eq_true rfl⟩ hG hP hD hS hA [0] rfl c_Ar_Ar h_Ar rfl hl.1 rfl (Nat.le_of_ble_eq_true rfl) dX9_does_330 ⟨Nat.le_refl _, Nat.le_refl _⟩ (fun H locs hP hD hS => ?_)
      have hP : va_P D vwCl (wAr cy a0 (m_X9_daysOn r x2).2) H := va_P_eq hP r_Ar_Ar
      have hD : va_D A (wAr cy a0 (m_X9_daysOn r x2).2) := va_D_eq hD r_Ar_Ar
      refine lv_if_le (tgt := 340) hx hb dX9_does_333 (by decide) (fun c_57 => ?_) (fun c_57 => ?_)
      · skip
        refine lv_iconst (v := (0 : Int32)) hx hb dX9_does_340 (by decide) ?_
        exact mu_zret hx hb hr hlocks rfl hP hS dX9_does_341 (by rw [m_X9_does, if_neg c_1, if_neg c_4, if_neg c_7, if_neg c_10, if_neg c_13, if_neg c_16, if_neg c_19, if_neg c_22, if_neg c_25, if_neg c_28, if_neg c_31, if_neg c_34, if_neg c_37, if_neg c_40, if_neg c_43, if_neg c_46, if_neg c_49, if_neg c_52, if_pos c_55, if_neg c_56, if_pos c_57]) (by rw [m_X9_does, if_neg c_1, if_neg c_4, if_neg c_7, if_neg c_10, if_neg c_13, if_neg c_16, if_neg c_19, if_neg c_22, if_neg c_25, if_neg c_28, if_neg c_31, if_neg c_34, if_neg c_37, if_neg c_40, if_neg c_43, if_neg c_46, if_neg c_49, if_neg c_52, if_pos c_55, if_neg c_56, if_pos c_57])
      · skip
        refine lv_iconst (v := (1 : Int32)) hx hb dX9_does_336 (by decide) ?_
        refine lv_goto (tgt := 341) hx hb dX9_does_337 (by decide) ?_
        exact mu_zret hx hb hr hlocks rfl hP hS dX9_does_341 (by rw [m_X9_does, if_neg c_1, if_neg c_4, if_neg c_7, if_neg c_10, if_neg c_13, if_neg c_16, if_neg c_19, if_neg c_22, if_neg c_25, if_neg c_28, if_neg c_31, if_neg c_34, if_neg c_37, if_neg c_40, if_neg c_43, if_neg c_46, if_neg c_49, if_neg c_52, if_pos c_55, if_neg c_56, if_neg c_57]) (by rw [m_X9_does, if_neg c_1, if_neg c_4, if_neg c_7, if_neg c_10, if_neg c_13, if_neg c_16, if_neg c_19, if_neg c_22, if_neg c_25, if_neg c_28, if_neg c_31, if_neg c_34, if_neg c_37, if_neg c_40, if_neg c_43, if_neg c_46, if_neg c_49, if_neg c_52, if_pos c_55, if_neg c_56, if_neg c_57])
  by_cases c_58 : x1 = (116 : Int32)
  · refine lv_tableIn (tgt := 264) hx hb dX9_does_1 (by rw [c_58]; decide) (by rw [c_58]; decide) (by rw [c_58]; rfl) (by decide) ?_
    refine lv_aload_n hx hb dX9_does_264 rfl (lv_at hl 0 rfl) ?_
    refine lv_iload_n hx hb dX9_does_265 rfl (lv_at hl 2 rfl) ?_
    refine lv_iload_n hx hb dX9_does_266 rfl (lv_at hl 3 rfl) ?_
    refine lv_iload hx hb dX9_does_267 (lv_at hl 4 rfl) ?_
    refine roS (wc := (wAr cy a0 r)) (As := [.ref a0, .int x2, .int x3, .int x4]) (rest := []) (c_X9_whyNotTake l D cy a0 r x2 x3 x4 hR) hCF gX9_does_X9_whyNotTake rfl hd_X9_whyNotTake ⟨rfl, rfl, Nat.le_of_ble_eq_true rfl, Nat.le_of_ble_eq_true rfl⟩ hG hP rfl hl.1 rfl (Nat.le_of_ble_eq_true rfl) dX9_does_269 ⟨Nat.le_refl _, Nat.le_refl _⟩ ?_
    refine lv_if_ne (tgt := 290) hx hb dX9_does_272 (by decide) (fun c_59 => ?_) (fun c_59 => ?_)
    · skip
      refine lv_iconst (v := (0 : Int32)) hx hb dX9_does_290 (by decide) ?_
      exact mu_zret hx hb hr hlocks rfl hP hS dX9_does_291 (by rw [m_X9_does, if_neg c_1, if_neg c_4, if_neg c_7, if_neg c_10, if_neg c_13, if_neg c_16, if_neg c_19, if_neg c_22, if_neg c_25, if_neg c_28, if_neg c_31, if_neg c_34, if_neg c_37, if_neg c_40, if_neg c_43, if_neg c_46, if_neg c_49, if_neg c_52, if_neg c_55, if_pos c_58, if_neg c_59]) (by rw [m_X9_does, if_neg c_1, if_neg c_4, if_neg c_7, if_neg c_10, if_neg c_13, if_neg c_16, if_neg c_19, if_neg c_22, if_neg c_25, if_neg c_28, if_neg c_31, if_neg c_34, if_neg c_37, if_neg c_40, if_neg c_43, if_neg c_46, if_neg c_49, if_neg c_52, if_neg c_55, if_pos c_58, if_neg c_59])
    · skip
      refine lv_aload_n hx hb dX9_does_275 rfl (lv_at hl 0 rfl) ?_
      refine lv_iload_n hx hb dX9_does_276 rfl (lv_at hl 2 rfl) ?_
      refine lv_iload_n hx hb dX9_does_277 rfl (lv_at hl 3 rfl) ?_
      refine lv_iload hx hb dX9_does_278 (lv_at hl 4 rfl) ?_
      refine muS (A0 := A) (wc := (wAr cy a0 r)) (As := [.ref a0, .int x2, .int x3, .int x4]) (rest := []) (c_X9_takeOn l D cy a0 r x2 x3 x4 hR (wn_Take_0 hR c_59) (wn_Take_1 hR c_59) (wn_Take_2 hR c_59)) hCF gX9_does_X9_takeOn rfl hd_X9_takeOn ⟨rfl, rfl, Nat.le_of_ble_eq_true rfl, Nat.le_of_ble_eq_true rfl⟩ hG hP hD hS hA [0] rfl c_Ar_Ar h_Ar rfl hl.1 rfl (Nat.le_of_ble_eq_true rfl) dX9_does_280 ⟨Nat.le_refl _, Nat.le_refl _⟩ (fun H locs hP hD hS => ?_)
      have hP : va_P D vwCl (wAr cy a0 (m_X9_takeOn r x2 x3 x4).2) H := va_P_eq hP r_Ar_Ar
      have hD : va_D A (wAr cy a0 (m_X9_takeOn r x2 x3 x4).2) := va_D_eq hD r_Ar_Ar
      refine lv_if_lt (tgt := 290) hx hb dX9_does_283 (by decide) (fun c_60 => ?_) (fun c_60 => ?_)
      · skip
        refine lv_iconst (v := (0 : Int32)) hx hb dX9_does_290 (by decide) ?_
        exact mu_zret hx hb hr hlocks rfl hP hS dX9_does_291 (by rw [m_X9_does, if_neg c_1, if_neg c_4, if_neg c_7, if_neg c_10, if_neg c_13, if_neg c_16, if_neg c_19, if_neg c_22, if_neg c_25, if_neg c_28, if_neg c_31, if_neg c_34, if_neg c_37, if_neg c_40, if_neg c_43, if_neg c_46, if_neg c_49, if_neg c_52, if_neg c_55, if_pos c_58, if_pos c_59, if_pos c_60]) (by rw [m_X9_does, if_neg c_1, if_neg c_4, if_neg c_7, if_neg c_10, if_neg c_13, if_neg c_16, if_neg c_19, if_neg c_22, if_neg c_25, if_neg c_28, if_neg c_31, if_neg c_34, if_neg c_37, if_neg c_40, if_neg c_43, if_neg c_46, if_neg c_49, if_neg c_52, if_neg c_55, if_pos c_58, if_pos c_59, if_pos c_60])
      · skip
        refine lv_iconst (v := (1 : Int32)) hx hb dX9_does_286 (by decide) ?_
        refine lv_goto (tgt := 291) hx hb dX9_does_287 (by decide) ?_
        exact mu_zret hx hb hr hlocks rfl hP hS dX9_does_291 (by rw [m_X9_does, if_neg c_1, if_neg c_4, if_neg c_7, if_neg c_10, if_neg c_13, if_neg c_16, if_neg c_19, if_neg c_22, if_neg c_25, if_neg c_28, if_neg c_31, if_neg c_34, if_neg c_37, if_neg c_40, if_neg c_43, if_neg c_46, if_neg c_49, if_neg c_52, if_neg c_55, if_pos c_58, if_pos c_59, if_neg c_60]) (by rw [m_X9_does, if_neg c_1, if_neg c_4, if_neg c_7, if_neg c_10, if_neg c_13, if_neg c_16, if_neg c_19, if_neg c_22, if_neg c_25, if_neg c_28, if_neg c_31, if_neg c_34, if_neg c_37, if_neg c_40, if_neg c_43, if_neg c_46, if_neg c_49, if_neg c_52, if_neg c_55, if_pos c_58, if_pos c_59, if_neg c_60])
  by_cases c_61 : x1 = (117 : Int32)
  · refine lv_tableIn (tgt := 316) hx hb dX9_does_1 (by rw [c_61]; decide) (by rw [c_61]; decide) (by rw [c_61]; rfl) (by decide) ?_
    refine lv_iload_n hx hb dX9_does_316 rfl (lv_at hl 2 rfl) ?_
    refine lv_i2l hx hb dX9_does_317 rfl ?_
    refine lv_lconst (v := (1 : Int64)) hx hb dX9_does_318 (by decide) ?_
    refine lv_ldc2 (v := (99 : Int64)) hx hb hown k_0 dX9_does_319 ?_
    refine roS (wc := ([] : va_W)) (As := [.long x2.toInt64, .long (1 : Int64), .long (99 : Int64)]) (rest := []) (c_X9_in l D cy x2.toInt64 (1 : Int64) (99 : Int64)) hCF gX9_does_X9_in rfl hd_X9_in ⟨rfl, rfl, Nat.le_of_ble_eq_true rfl, Nat.le_of_ble_eq_true rfl⟩ hG va_P_nil rfl hl.1 rfl (Nat.le_of_ble_eq_true rfl) dX9_does_322 ⟨Nat.le_refl _, Nat.le_refl _⟩ ?_
    refine lv_if_eq (tgt := 340) hx hb dX9_does_325 (by decide) (fun c_62 => ?_) (fun c_62 => ?_)
    · skip
      refine lv_iconst (v := (0 : Int32)) hx hb dX9_does_340 (by decide) ?_
      exact mu_zret hx hb hr hlocks rfl hP hS dX9_does_341 (by rw [m_X9_does, if_neg c_1, if_neg c_4, if_neg c_7, if_neg c_10, if_neg c_13, if_neg c_16, if_neg c_19, if_neg c_22, if_neg c_25, if_neg c_28, if_neg c_31, if_neg c_34, if_neg c_37, if_neg c_40, if_neg c_43, if_neg c_46, if_neg c_49, if_neg c_52, if_neg c_55, if_neg c_58, if_pos c_61, if_pos c_62]) (by rw [m_X9_does, if_neg c_1, if_neg c_4, if_neg c_7, if_neg c_10, if_neg c_13, if_neg c_16, if_neg c_19, if_neg c_22, if_neg c_25, if_neg c_28, if_neg c_31, if_neg c_34, if_neg c_37, if_neg c_40, if_neg c_43, if_neg c_46, if_neg c_49, if_neg c_52, if_neg c_55, if_neg c_58, if_pos c_61, if_pos c_62])
    · skip
      refine lv_aload_n hx hb dX9_does_328 rfl (lv_at hl 0 rfl) ?_
      refine lv_iload_n hx hb dX9_does_329 rfl (lv_at hl 2 rfl) ?_
      refine muS (A0 := A) (wc := (wAr cy a0 r)) (As := [.ref a0, .int x2]) (rest := []) (c_X9_daysOn l D cy a0 r x2) hCF gX9_does_X9_daysOn rfl hd_X9_daysOn ⟨rfl, rfl, Nat.le_of_ble_eq_true rfl, Nat.le_of_ble_eq_true rfl⟩ hG hP hD hS hA [0] rfl c_Ar_Ar h_Ar rfl hl.1 rfl (Nat.le_of_ble_eq_true rfl) dX9_does_330 ⟨Nat.le_refl _, Nat.le_refl _⟩ (fun H locs hP hD hS => ?_)
      have hP : va_P D vwCl (wAr cy a0 (m_X9_daysOn r x2).2) H := va_P_eq hP r_Ar_Ar
      have hD : va_D A (wAr cy a0 (m_X9_daysOn r x2).2) := va_D_eq hD r_Ar_Ar
      refine lv_if_le (tgt := 340) hx hb dX9_does_333 (by decide) (fun c_63 => ?_) (fun c_63 => ?_)
      · skip
        refine lv_iconst (v := (0 : Int32)) hx hb dX9_does_340 (by decide) ?_
        exact mu_zret hx hb hr hlocks rfl hP hS dX9_does_341 (by rw [m_X9_does, if_neg c_1, if_neg c_4, if_neg c_7, if_neg c_10, if_neg c_13, if_neg c_16, if_neg c_19, if_neg c_22, if_neg c_25, if_neg c_28, if_neg c_31, if_neg c_34, if_neg c_37, if_neg c_40, if_neg c_43, if_neg c_46, if_neg c_49, if_neg c_52, if_neg c_55, if_neg c_58, if_pos c_61, if_neg c_62, if_pos c_63]) (by rw [m_X9_does, if_neg c_1, if_neg c_4, if_neg c_7, if_neg c_10, if_neg c_13, if_neg c_16, if_neg c_19, if_neg c_22, if_neg c_25, if_neg c_28, if_neg c_31, if_neg c_34, if_neg c_37, if_neg c_40, if_neg c_43, if_neg c_46, if_neg c_49, if_neg c_52, if_neg c_55, if_neg c_58, if_pos c_61, if_neg c_62, if_pos c_63])
      · skip
        refine lv_iconst (v := (1 : Int32)) hx hb dX9_does_336 (by decide) ?_
        refine lv_goto (tgt := 341) hx hb dX9_does_337 (by decide) ?_
        exact mu_zret hx hb hr hlocks rfl hP hS dX9_does_341 (by rw [m_X9_does, if_neg c_1, if_neg c_4, if_neg c_7, if_neg c_10, if_neg c_13, if_neg c_16, if_neg c_19, if_neg c_22, if_neg c_25, if_neg c_28, if_neg c_31, if_neg c_34, if_neg c_37, if_neg c_40, if_neg c_43, if_neg c_46, if_neg c_49, if_neg c_52, if_neg c_55, if_neg c_58, if_pos c_61, if_neg c_62, if_neg c_63]) (by rw [m_X9_does, if_neg c_1, if_neg c_4, if_neg c_7, if_neg c_10, if_neg c_13, if_neg c_16, if_neg c_19, if_neg c_22, if_neg c_25, if_neg c_28, if_neg c_31, if_neg c_34, if_neg c_37, if_neg c_40, if_neg c_43, if_neg c_46, if_neg c_49, if_neg c_52, if_neg c_55, if_neg c_58, if_pos c_61, if_neg c_62, if_neg c_63])
  by_cases c_64 : x1 = (118 : Int32)
  · refine lv_tableIn (tgt := 242) hx hb dX9_does_1 (by rw [c_64]; decide) (by rw [c_64]; decide) (by rw [c_64]; rfl) (by decide) ?_
    refine lv_aload_n hx hb dX9_does_242 rfl (lv_at hl 0 rfl) ?_
    refine lv_iload_n hx hb dX9_does_243 rfl (lv_at hl 2 rfl) ?_
    refine roS (wc := (wAr cy a0 r)) (As := [.ref a0, .int x2]) (rest := []) (c_X9_whyNotDeliver l D cy a0 r x2 hR) hCF gX9_does_X9_whyNotDeliver rfl hd_X9_whyNotDeliver ⟨rfl, rfl, Nat.le_of_ble_eq_true rfl, Nat.le_of_ble_eq_true rfl⟩ hG hP rfl hl.1 rfl (Nat.le_of_ble_eq_true rfl) dX9_does_244 ⟨Nat.le_refl _, Nat.le_refl _⟩ ?_
    refine lv_if_ne (tgt := 262) hx hb dX9_does_247 (by decide) (fun c_65 => ?_) (fun c_65 => ?_)
    · skip
      refine lv_iconst (v := (0 : Int32)) hx hb dX9_does_262 (by decide) ?_
      exact mu_zret hx hb hr hlocks rfl hP hS dX9_does_263 (by rw [m_X9_does, if_neg c_1, if_neg c_4, if_neg c_7, if_neg c_10, if_neg c_13, if_neg c_16, if_neg c_19, if_neg c_22, if_neg c_25, if_neg c_28, if_neg c_31, if_neg c_34, if_neg c_37, if_neg c_40, if_neg c_43, if_neg c_46, if_neg c_49, if_neg c_52, if_neg c_55, if_neg c_58, if_neg c_61, if_pos c_64, if_neg c_65]) (by rw [m_X9_does, if_neg c_1, if_neg c_4, if_neg c_7, if_neg c_10, if_neg c_13, if_neg c_16, if_neg c_19, if_neg c_22, if_neg c_25, if_neg c_28, if_neg c_31, if_neg c_34, if_neg c_37, if_neg c_40, if_neg c_43, if_neg c_46, if_neg c_49, if_neg c_52, if_neg c_55, if_neg c_58, if_neg c_61, if_pos c_64, if_neg c_65])
    · skip
      refine lv_aload_n hx hb dX9_does_250 rfl (lv_at hl 0 rfl) ?_
      refine lv_iload_n hx hb dX9_does_251 rfl (lv_at hl 2 rfl) ?_
      refine muS (A0 := A) (wc := (wAr cy a0 r)) (As := [.ref a0, .int x2]) (rest := []) (c_X9_deliverOn l D cy a0 r x2 hR (wn_Deliver_0 hR c_65) (wn_Del_o c_65)) hCF gX9_does_X9_deliverOn rfl hd_X9_deliverOn ⟨rfl, rfl, Nat.le_of_ble_eq_true rfl, Nat.le_of_ble_eq_true rfl⟩ hG hP hD hS hA [0] rfl c_Ar_Ar h_Ar rfl hl.1 rfl (Nat.le_of_ble_eq_true rfl) dX9_does_252 ⟨Nat.le_refl _, Nat.le_refl _⟩ (fun H locs hP hD hS => ?_)
      have hP : va_P D vwCl (wAr cy a0 (m_X9_deliverOn r x2).2) H := va_P_eq hP r_Ar_Ar
      have hD : va_D A (wAr cy a0 (m_X9_deliverOn r x2).2) := va_D_eq hD r_Ar_Ar
      refine lv_if_lt (tgt := 262) hx hb dX9_does_255 (by decide) (fun c_66 => ?_) (fun c_66 => ?_)
      · skip
        refine lv_iconst (v := (0 : Int32)) hx hb dX9_does_262 (by decide) ?_
        exact mu_zret hx hb hr hlocks rfl hP hS dX9_does_263 (by rw [m_X9_does, if_neg c_1, if_neg c_4, if_neg c_7, if_neg c_10, if_neg c_13, if_neg c_16, if_neg c_19, if_neg c_22, if_neg c_25, if_neg c_28, if_neg c_31, if_neg c_34, if_neg c_37, if_neg c_40, if_neg c_43, if_neg c_46, if_neg c_49, if_neg c_52, if_neg c_55, if_neg c_58, if_neg c_61, if_pos c_64, if_pos c_65, if_pos c_66]) (by rw [m_X9_does, if_neg c_1, if_neg c_4, if_neg c_7, if_neg c_10, if_neg c_13, if_neg c_16, if_neg c_19, if_neg c_22, if_neg c_25, if_neg c_28, if_neg c_31, if_neg c_34, if_neg c_37, if_neg c_40, if_neg c_43, if_neg c_46, if_neg c_49, if_neg c_52, if_neg c_55, if_neg c_58, if_neg c_61, if_pos c_64, if_pos c_65, if_pos c_66])
      · skip
        refine lv_iconst (v := (1 : Int32)) hx hb dX9_does_258 (by decide) ?_
        refine lv_goto (tgt := 263) hx hb dX9_does_259 (by decide) ?_
        exact mu_zret hx hb hr hlocks rfl hP hS dX9_does_263 (by rw [m_X9_does, if_neg c_1, if_neg c_4, if_neg c_7, if_neg c_10, if_neg c_13, if_neg c_16, if_neg c_19, if_neg c_22, if_neg c_25, if_neg c_28, if_neg c_31, if_neg c_34, if_neg c_37, if_neg c_40, if_neg c_43, if_neg c_46, if_neg c_49, if_neg c_52, if_neg c_55, if_neg c_58, if_neg c_61, if_pos c_64, if_pos c_65, if_neg c_66]) (by rw [m_X9_does, if_neg c_1, if_neg c_4, if_neg c_7, if_neg c_10, if_neg c_13, if_neg c_16, if_neg c_19, if_neg c_22, if_neg c_25, if_neg c_28, if_neg c_31, if_neg c_34, if_neg c_37, if_neg c_40, if_neg c_43, if_neg c_46, if_neg c_49, if_neg c_52, if_neg c_55, if_neg c_58, if_neg c_61, if_pos c_64, if_pos c_65, if_neg c_66])
  by_cases c_67 : x1 = (119 : Int32)
  · refine lv_tableIn (tgt := 316) hx hb dX9_does_1 (by rw [c_67]; decide) (by rw [c_67]; decide) (by rw [c_67]; rfl) (by decide) ?_
    refine lv_iload_n hx hb dX9_does_316 rfl (lv_at hl 2 rfl) ?_
    refine lv_i2l hx hb dX9_does_317 rfl ?_
    refine lv_lconst (v := (1 : Int64)) hx hb dX9_does_318 (by decide) ?_
    refine lv_ldc2 (v := (99 : Int64)) hx hb hown k_0 dX9_does_319 ?_
    refine roS (wc := ([] : va_W)) (As := [.long x2.toInt64, .long (1 : Int64), .long (99 : Int64)]) (rest := []) (c_X9_in l D cy x2.toInt64 (1 : Int64) (99 : Int64)) hCF gX9_does_X9_in rfl hd_X9_in ⟨rfl, rfl, Nat.le_of_ble_eq_true rfl, Nat.le_of_ble_eq_true rfl⟩ hG va_P_nil rfl hl.1 rfl (Nat.le_of_ble_eq_true rfl) dX9_does_322 ⟨Nat.le_refl _, Nat.le_refl _⟩ ?_
    refine lv_if_eq (tgt := 340) hx hb dX9_does_325 (by decide) (fun c_68 => ?_) (fun c_68 => ?_)
    · skip
      refine lv_iconst (v := (0 : Int32)) hx hb dX9_does_340 (by decide) ?_
      exact mu_zret hx hb hr hlocks rfl hP hS dX9_does_341 (by rw [m_X9_does, if_neg c_1, if_neg c_4, if_neg c_7, if_neg c_10, if_neg c_13, if_neg c_16, if_neg c_19, if_neg c_22, if_neg c_25, if_neg c_28, if_neg c_31, if_neg c_34, if_neg c_37, if_neg c_40, if_neg c_43, if_neg c_46, if_neg c_49, if_neg c_52, if_neg c_55, if_neg c_58, if_neg c_61, if_neg c_64, if_pos c_67, if_pos c_68]) (by rw [m_X9_does, if_neg c_1, if_neg c_4, if_neg c_7, if_neg c_10, if_neg c_13, if_neg c_16, if_neg c_19, if_neg c_22, if_neg c_25, if_neg c_28, if_neg c_31, if_neg c_34, if_neg c_37, if_neg c_40, if_neg c_43, if_neg c_46, if_neg c_49, if_neg c_52, if_neg c_55, if_neg c_58, if_neg c_61, if_neg c_64, if_pos c_67, if_pos c_68])
    · skip
      refine lv_aload_n hx hb dX9_does_328 rfl (lv_at hl 0 rfl) ?_
      refine lv_iload_n hx hb dX9_does_329 rfl (lv_at hl 2 rfl) ?_
      refine muS (A0 := A) (wc := (wAr cy a0 r)) (As := [.ref a0, .int x2]) (rest := []) (c_X9_daysOn l D cy a0 r x2) hCF gX9_does_X9_daysOn rfl hd_X9_daysOn ⟨rfl, rfl, Nat.le_of_ble_eq_true rfl, Nat.le_of_ble_eq_true rfl⟩ hG hP hD hS hA [0] rfl c_Ar_Ar h_Ar rfl hl.1 rfl (Nat.le_of_ble_eq_true rfl) dX9_does_330 ⟨Nat.le_refl _, Nat.le_refl _⟩ (fun H locs hP hD hS => ?_)
      have hP : va_P D vwCl (wAr cy a0 (m_X9_daysOn r x2).2) H := va_P_eq hP r_Ar_Ar
      have hD : va_D A (wAr cy a0 (m_X9_daysOn r x2).2) := va_D_eq hD r_Ar_Ar
      refine lv_if_le (tgt := 340) hx hb dX9_does_333 (by decide) (fun c_69 => ?_) (fun c_69 => ?_)
      · skip
        refine lv_iconst (v := (0 : Int32)) hx hb dX9_does_340 (by decide) ?_
        exact mu_zret hx hb hr hlocks rfl hP hS dX9_does_341 (by rw [m_X9_does, if_neg c_1, if_neg c_4, if_neg c_7, if_neg c_10, if_neg c_13, if_neg c_16, if_neg c_19, if_neg c_22, if_neg c_25, if_neg c_28, if_neg c_31, if_neg c_34, if_neg c_37, if_neg c_40, if_neg c_43, if_neg c_46, if_neg c_49, if_neg c_52, if_neg c_55, if_neg c_58, if_neg c_61, if_neg c_64, if_pos c_67, if_neg c_68, if_pos c_69]) (by rw [m_X9_does, if_neg c_1, if_neg c_4, if_neg c_7, if_neg c_10, if_neg c_13, if_neg c_16, if_neg c_19, if_neg c_22, if_neg c_25, if_neg c_28, if_neg c_31, if_neg c_34, if_neg c_37, if_neg c_40, if_neg c_43, if_neg c_46, if_neg c_49, if_neg c_52, if_neg c_55, if_neg c_58, if_neg c_61, if_neg c_64, if_pos c_67, if_neg c_68, if_pos c_69])
      · skip
        refine lv_iconst (v := (1 : Int32)) hx hb dX9_does_336 (by decide) ?_
        refine lv_goto (tgt := 341) hx hb dX9_does_337 (by decide) ?_
        exact mu_zret hx hb hr hlocks rfl hP hS dX9_does_341 (by rw [m_X9_does, if_neg c_1, if_neg c_4, if_neg c_7, if_neg c_10, if_neg c_13, if_neg c_16, if_neg c_19, if_neg c_22, if_neg c_25, if_neg c_28, if_neg c_31, if_neg c_34, if_neg c_37, if_neg c_40, if_neg c_43, if_neg c_46, if_neg c_49, if_neg c_52, if_neg c_55, if_neg c_58, if_neg c_61, if_neg c_64, if_pos c_67, if_neg c_68, if_neg c_69]) (by rw [m_X9_does, if_neg c_1, if_neg c_4, if_neg c_7, if_neg c_10, if_neg c_13, if_neg c_16, if_neg c_19, if_neg c_22, if_neg c_25, if_neg c_28, if_neg c_31, if_neg c_34, if_neg c_37, if_neg c_40, if_neg c_43, if_neg c_46, if_neg c_49, if_neg c_52, if_neg c_55, if_neg c_58, if_neg c_61, if_neg c_64, if_pos c_67, if_neg c_68, if_neg c_69])
  by_cases c_70 : x1 = (120 : Int32)
  · refine lv_tableIn (tgt := 190) hx hb dX9_does_1 (by rw [c_70]; decide) (by rw [c_70]; decide) (by rw [c_70]; rfl) (by decide) ?_
    refine lv_aload_n hx hb dX9_does_190 rfl (lv_at hl 0 rfl) ?_
    refine lv_iload_n hx hb dX9_does_191 rfl (lv_at hl 2 rfl) ?_
    refine lv_iload_n hx hb dX9_does_192 rfl (lv_at hl 3 rfl) ?_
    refine roS (wc := (wAr cy a0 r)) (As := [.ref a0, .int x2, .int x3]) (rest := []) (c_X9_whyNotExchange l D cy a0 r x2 x3 hR) hCF gX9_does_X9_whyNotExchange rfl hd_X9_whyNotExchange ⟨rfl, rfl, Nat.le_of_ble_eq_true rfl, Nat.le_of_ble_eq_true rfl⟩ hG hP rfl hl.1 rfl (Nat.le_of_ble_eq_true rfl) dX9_does_193 ⟨Nat.le_refl _, Nat.le_refl _⟩ ?_
    refine lv_if_ne (tgt := 212) hx hb dX9_does_196 (by decide) (fun c_71 => ?_) (fun c_71 => ?_)
    · skip
      refine lv_iconst (v := (0 : Int32)) hx hb dX9_does_212 (by decide) ?_
      exact mu_zret hx hb hr hlocks rfl hP hS dX9_does_213 (by rw [m_X9_does, if_neg c_1, if_neg c_4, if_neg c_7, if_neg c_10, if_neg c_13, if_neg c_16, if_neg c_19, if_neg c_22, if_neg c_25, if_neg c_28, if_neg c_31, if_neg c_34, if_neg c_37, if_neg c_40, if_neg c_43, if_neg c_46, if_neg c_49, if_neg c_52, if_neg c_55, if_neg c_58, if_neg c_61, if_neg c_64, if_neg c_67, if_pos c_70, if_neg c_71]) (by rw [m_X9_does, if_neg c_1, if_neg c_4, if_neg c_7, if_neg c_10, if_neg c_13, if_neg c_16, if_neg c_19, if_neg c_22, if_neg c_25, if_neg c_28, if_neg c_31, if_neg c_34, if_neg c_37, if_neg c_40, if_neg c_43, if_neg c_46, if_neg c_49, if_neg c_52, if_neg c_55, if_neg c_58, if_neg c_61, if_neg c_64, if_neg c_67, if_pos c_70, if_neg c_71])
    · skip
      refine lv_aload_n hx hb dX9_does_199 rfl (lv_at hl 0 rfl) ?_
      refine lv_iload_n hx hb dX9_does_200 rfl (lv_at hl 2 rfl) ?_
      refine lv_iload_n hx hb dX9_does_201 rfl (lv_at hl 3 rfl) ?_
      refine muS (A0 := A) (wc := (wAr cy a0 r)) (As := [.ref a0, .int x2, .int x3]) (rest := []) (c_X9_exchangeOn l D cy a0 r x2 x3 hR (wn_Exchange_0 hR c_71) (wn_Exchange_1 hR c_71)) hCF gX9_does_X9_exchangeOn rfl hd_X9_exchangeOn ⟨rfl, rfl, Nat.le_of_ble_eq_true rfl, Nat.le_of_ble_eq_true rfl⟩ hG hP hD hS hA [0] rfl c_Ar_Ar h_Ar rfl hl.1 rfl (Nat.le_of_ble_eq_true rfl) dX9_does_202 ⟨Nat.le_refl _, Nat.le_refl _⟩ (fun H locs hP hD hS => ?_)
      have hP : va_P D vwCl (wAr cy a0 (m_X9_exchangeOn r x2 x3).2) H := va_P_eq hP r_Ar_Ar
      have hD : va_D A (wAr cy a0 (m_X9_exchangeOn r x2 x3).2) := va_D_eq hD r_Ar_Ar
      refine lv_if_lt (tgt := 212) hx hb dX9_does_205 (by decide) (fun c_72 => ?_) (fun c_72 => ?_)
      · skip
        refine lv_iconst (v := (0 : Int32)) hx hb dX9_does_212 (by decide) ?_
        exact mu_zret hx hb hr hlocks rfl hP hS dX9_does_213 (by rw [m_X9_does, if_neg c_1, if_neg c_4, if_neg c_7, if_neg c_10, if_neg c_13, if_neg c_16, if_neg c_19, if_neg c_22, if_neg c_25, if_neg c_28, if_neg c_31, if_neg c_34, if_neg c_37, if_neg c_40, if_neg c_43, if_neg c_46, if_neg c_49, if_neg c_52, if_neg c_55, if_neg c_58, if_neg c_61, if_neg c_64, if_neg c_67, if_pos c_70, if_pos c_71, if_pos c_72]) (by rw [m_X9_does, if_neg c_1, if_neg c_4, if_neg c_7, if_neg c_10, if_neg c_13, if_neg c_16, if_neg c_19, if_neg c_22, if_neg c_25, if_neg c_28, if_neg c_31, if_neg c_34, if_neg c_37, if_neg c_40, if_neg c_43, if_neg c_46, if_neg c_49, if_neg c_52, if_neg c_55, if_neg c_58, if_neg c_61, if_neg c_64, if_neg c_67, if_pos c_70, if_pos c_71, if_pos c_72])
      · skip
        refine lv_iconst (v := (1 : Int32)) hx hb dX9_does_208 (by decide) ?_
        refine lv_goto (tgt := 213) hx hb dX9_does_209 (by decide) ?_
        exact mu_zret hx hb hr hlocks rfl hP hS dX9_does_213 (by rw [m_X9_does, if_neg c_1, if_neg c_4, if_neg c_7, if_neg c_10, if_neg c_13, if_neg c_16, if_neg c_19, if_neg c_22, if_neg c_25, if_neg c_28, if_neg c_31, if_neg c_34, if_neg c_37, if_neg c_40, if_neg c_43, if_neg c_46, if_neg c_49, if_neg c_52, if_neg c_55, if_neg c_58, if_neg c_61, if_neg c_64, if_neg c_67, if_pos c_70, if_pos c_71, if_neg c_72]) (by rw [m_X9_does, if_neg c_1, if_neg c_4, if_neg c_7, if_neg c_10, if_neg c_13, if_neg c_16, if_neg c_19, if_neg c_22, if_neg c_25, if_neg c_28, if_neg c_31, if_neg c_34, if_neg c_37, if_neg c_40, if_neg c_43, if_neg c_46, if_neg c_49, if_neg c_52, if_neg c_55, if_neg c_58, if_neg c_61, if_neg c_64, if_neg c_67, if_pos c_70, if_pos c_71, if_neg c_72])
  · refine lv_tableOut (tgt := 316) hx hb dX9_does_1 (by have q_1 := lv_neT (a := 97) c_1 rfl; have q_4 := lv_neT (a := 98) c_4 rfl; have q_7 := lv_neT (a := 99) c_7 rfl; have q_10 := lv_neT (a := 100) c_10 rfl; have q_13 := lv_neT (a := 101) c_13 rfl; have q_16 := lv_neT (a := 102) c_16 rfl; have q_19 := lv_neT (a := 103) c_19 rfl; have q_22 := lv_neT (a := 104) c_22 rfl; have q_25 := lv_neT (a := 105) c_25 rfl; have q_28 := lv_neT (a := 106) c_28 rfl; have q_31 := lv_neT (a := 107) c_31 rfl; have q_34 := lv_neT (a := 108) c_34 rfl; have q_37 := lv_neT (a := 109) c_37 rfl; have q_40 := lv_neT (a := 110) c_40 rfl; have q_43 := lv_neT (a := 111) c_43 rfl; have q_46 := lv_neT (a := 112) c_46 rfl; have q_49 := lv_neT (a := 113) c_49 rfl; have q_52 := lv_neT (a := 114) c_52 rfl; have q_55 := lv_neT (a := 115) c_55 rfl; have q_58 := lv_neT (a := 116) c_58 rfl; have q_61 := lv_neT (a := 117) c_61 rfl; have q_64 := lv_neT (a := 118) c_64 rfl; have q_67 := lv_neT (a := 119) c_67 rfl; have q_70 := lv_neT (a := 120) c_70 rfl; omega) (by decide) ?_
    refine lv_iload_n hx hb dX9_does_316 rfl (lv_at hl 2 rfl) ?_
    refine lv_i2l hx hb dX9_does_317 rfl ?_
    refine lv_lconst (v := (1 : Int64)) hx hb dX9_does_318 (by decide) ?_
    refine lv_ldc2 (v := (99 : Int64)) hx hb hown k_0 dX9_does_319 ?_
    refine roS (wc := ([] : va_W)) (As := [.long x2.toInt64, .long (1 : Int64), .long (99 : Int64)]) (rest := []) (c_X9_in l D cy x2.toInt64 (1 : Int64) (99 : Int64)) hCF gX9_does_X9_in rfl hd_X9_in ⟨rfl, rfl, Nat.le_of_ble_eq_true rfl, Nat.le_of_ble_eq_true rfl⟩ hG va_P_nil rfl hl.1 rfl (Nat.le_of_ble_eq_true rfl) dX9_does_322 ⟨Nat.le_refl _, Nat.le_refl _⟩ ?_
    refine lv_if_eq (tgt := 340) hx hb dX9_does_325 (by decide) (fun c_73 => ?_) (fun c_73 => ?_)
    · skip
      refine lv_iconst (v := (0 : Int32)) hx hb dX9_does_340 (by decide) ?_
      exact mu_zret hx hb hr hlocks rfl hP hS dX9_does_341 (by rw [m_X9_does, if_neg c_1, if_neg c_4, if_neg c_7, if_neg c_10, if_neg c_13, if_neg c_16, if_neg c_19, if_neg c_22, if_neg c_25, if_neg c_28, if_neg c_31, if_neg c_34, if_neg c_37, if_neg c_40, if_neg c_43, if_neg c_46, if_neg c_49, if_neg c_52, if_neg c_55, if_neg c_58, if_neg c_61, if_neg c_64, if_neg c_67, if_neg c_70, if_pos c_73]) (by rw [m_X9_does, if_neg c_1, if_neg c_4, if_neg c_7, if_neg c_10, if_neg c_13, if_neg c_16, if_neg c_19, if_neg c_22, if_neg c_25, if_neg c_28, if_neg c_31, if_neg c_34, if_neg c_37, if_neg c_40, if_neg c_43, if_neg c_46, if_neg c_49, if_neg c_52, if_neg c_55, if_neg c_58, if_neg c_61, if_neg c_64, if_neg c_67, if_neg c_70, if_pos c_73])
    · skip
      refine lv_aload_n hx hb dX9_does_328 rfl (lv_at hl 0 rfl) ?_
      refine lv_iload_n hx hb dX9_does_329 rfl (lv_at hl 2 rfl) ?_
      refine muS (A0 := A) (wc := (wAr cy a0 r)) (As := [.ref a0, .int x2]) (rest := []) (c_X9_daysOn l D cy a0 r x2) hCF gX9_does_X9_daysOn rfl hd_X9_daysOn ⟨rfl, rfl, Nat.le_of_ble_eq_true rfl, Nat.le_of_ble_eq_true rfl⟩ hG hP hD hS hA [0] rfl c_Ar_Ar h_Ar rfl hl.1 rfl (Nat.le_of_ble_eq_true rfl) dX9_does_330 ⟨Nat.le_refl _, Nat.le_refl _⟩ (fun H locs hP hD hS => ?_)
      have hP : va_P D vwCl (wAr cy a0 (m_X9_daysOn r x2).2) H := va_P_eq hP r_Ar_Ar
      have hD : va_D A (wAr cy a0 (m_X9_daysOn r x2).2) := va_D_eq hD r_Ar_Ar
      refine lv_if_le (tgt := 340) hx hb dX9_does_333 (by decide) (fun c_74 => ?_) (fun c_74 => ?_)
      · skip
        refine lv_iconst (v := (0 : Int32)) hx hb dX9_does_340 (by decide) ?_
        exact mu_zret hx hb hr hlocks rfl hP hS dX9_does_341 (by rw [m_X9_does, if_neg c_1, if_neg c_4, if_neg c_7, if_neg c_10, if_neg c_13, if_neg c_16, if_neg c_19, if_neg c_22, if_neg c_25, if_neg c_28, if_neg c_31, if_neg c_34, if_neg c_37, if_neg c_40, if_neg c_43, if_neg c_46, if_neg c_49, if_neg c_52, if_neg c_55, if_neg c_58, if_neg c_61, if_neg c_64, if_neg c_67, if_neg c_70, if_neg c_73, if_pos c_74]) (by rw [m_X9_does, if_neg c_1, if_neg c_4, if_neg c_7, if_neg c_10, if_neg c_13, if_neg c_16, if_neg c_19, if_neg c_22, if_neg c_25, if_neg c_28, if_neg c_31, if_neg c_34, if_neg c_37, if_neg c_40, if_neg c_43, if_neg c_46, if_neg c_49, if_neg c_52, if_neg c_55, if_neg c_58, if_neg c_61, if_neg c_64, if_neg c_67, if_neg c_70, if_neg c_73, if_pos c_74])
      · skip
        refine lv_iconst (v := (1 : Int32)) hx hb dX9_does_336 (by decide) ?_
        refine lv_goto (tgt := 341) hx hb dX9_does_337 (by decide) ?_
        exact mu_zret hx hb hr hlocks rfl hP hS dX9_does_341 (by rw [m_X9_does, if_neg c_1, if_neg c_4, if_neg c_7, if_neg c_10, if_neg c_13, if_neg c_16, if_neg c_19, if_neg c_22, if_neg c_25, if_neg c_28, if_neg c_31, if_neg c_34, if_neg c_37, if_neg c_40, if_neg c_43, if_neg c_46, if_neg c_49, if_neg c_52, if_neg c_55, if_neg c_58, if_neg c_61, if_neg c_64, if_neg c_67, if_neg c_70, if_neg c_73, if_neg c_74]) (by rw [m_X9_does, if_neg c_1, if_neg c_4, if_neg c_7, if_neg c_10, if_neg c_13, if_neg c_16, if_neg c_19, if_neg c_22, if_neg c_25, if_neg c_28, if_neg c_31, if_neg c_34, if_neg c_37, if_neg c_40, if_neg c_43, if_neg c_46, if_neg c_49, if_neg c_52, if_neg c_55, if_neg c_58, if_neg c_61, if_neg c_64, if_neg c_67, if_neg c_70, if_neg c_73, if_neg c_74])
theorem b01_ite {α : Type} {P : Prop} [Decidable P] {a b : Int32 × α} (ha : a.1 = 0 ∨ a.1 = 1) (hb : b.1 = 0 ∨ b.1 = 1) : (if P then a else b).1 = 0 ∨ (if P then a else b).1 = 1 := by
  by_cases h : P
  · rw [if_pos h]; exact ha
  · rw [if_neg h]; exact hb
theorem b01_0 {α : Type} {x : α} : ((0 : Int32), x).1 = 0 ∨ ((0 : Int32), x).1 = 1 := Or.inl rfl
theorem b01_1 {α : Type} {x : α} : ((1 : Int32), x).1 = 0 ∨ ((1 : Int32), x).1 = 1 := Or.inr rfl
theorem rok_ite {α : Type} {P : Prop} [Decidable P] {a b : α × (Nat → Int32)} (ha : P → rOK a.2) (hb : ¬ P → rOK b.2) : rOK (if P then a else b).2 := by
  by_cases h : P
  · rw [if_pos h]; exact ha h
  · rw [if_neg h]; exact hb h
theorem rokW_ite {P : Prop} [Decidable P] {a b : MoT} (ha : P → rOK (mW a)) (hb : ¬ P → rOK (mW b)) : rOK (mW (if P then a else b)) := by
  by_cases h : P
  · rw [if_pos h]; exact ha h
  · rw [if_neg h]; exact hb h
theorem rokW2_ite {α : Type} {P : Prop} [Decidable P] {a b : α × MoT} (ha : P → rOK (mW a.2)) (hb : ¬ P → rOK (mW b.2)) : rOK (mW (if P then a else b).2) := by
  by_cases h : P
  · rw [if_pos h]; exact ha h
  · rw [if_neg h]; exact hb h
theorem b01_does (r : Nat → Int32) (a b c d : Int32) : (m_X9_does r a b c d).1 = 0 ∨ (m_X9_does r a b c d).1 = 1 := by
  unfold m_X9_does
  repeat' (refine b01_ite ?_ ?_)
  all_goals first
    | exact Or.inl rfl
    | exact Or.inr rfl
/-- the text's place and its length -/
def txtOK (mo : MoT) : Prop := iv 0 120 (mP mo) ∧ iv 0 120 (mZ mo)
theorem nb_t {mo : MoT} (h : txtOK mo) (c : ¬ mZ mo ≤ mP mo) : vp_in (mP mo) 120 := by
  rw [i32_le] at c
  have := h.1.1
  have := h.2.2
  exact bd_of (by omega) (by omega)
theorem nb_up {mo : MoT} (h : txtOK mo) (c : ¬ mZ mo ≤ mP mo) : txtOK (mP' mo (mP mo + 1)) := by
  rw [i32_le] at c
  obtain ⟨h1, h2⟩ := h
  have := h1.1
  have := h1.2
  have := h2.2
  refine ⟨?_, h2⟩
  have e : (mP mo + 1).toInt = (mP mo).toInt + 1 := by rw [i32_add (by rw [i32_1]; omega) (by rw [i32_1]; omega), i32_1]
  exact ⟨by rw [mP_mP', e]; omega, by rw [mP_mP', e]; omega⟩
theorem nb_dec {w : Int32} {n : Nat} (c : ¬ w ≤ 0) (hm : w.toInt.toNat < n + 1) : (w / 10).toInt.toNat < n := by
  rw [i32_le, i32_0] at c
  have e10 : (10 : Int32).toInt = 10 := by decide
  have e : (w / 10).toInt = w.toInt / 10 := by
    rw [Int32.toInt_div, e10]
    have h1 : w.toInt.tdiv 10 = w.toInt / 10 := Int.tdiv_eq_ediv_of_nonneg (by omega)
    rw [h1]
    have := i32_hi w
    exact bmod_of (by omega) (by omega)
  omega
def m_X9_number_L16 : Nat → MoT → Int32 → Int32 → Int32 → Int32 → Int32 → Int32 × MoT
  | 0, r, _, _, _, _, _ => (0, r)
  | nF + 1, r, x1, x2, x3, v, w => if w ≤ (0 : Int32) then (v, r) else if (mZ r) ≤ (mP r) then ((-1 : Int32), r) else if (m_X9_in (((mT r) (mP r).toNatClampNeg) - (48 : Int32)).toInt64 (0 : Int64) (9 : Int64)) = (0 : Int32) then ((-1 : Int32), r) else if x3 < (v + ((((mT r) (mP r).toNatClampNeg) - (48 : Int32)) * w)) then ((-1 : Int32), r) else if x2 ≤ (((v + ((((mT r) (mP r).toNatClampNeg) - (48 : Int32)) * w)) + w) - (1 : Int32)) then m_X9_number_L16 nF (mP' r ((mP r) + (1 : Int32))) x1 x2 x3 (v + ((((mT r) (mP r).toNatClampNeg) - (48 : Int32)) * w)) (w / (10 : Int32)) else ((-1 : Int32), r)
def m_X9_number (mo : MoT) (x1 : Int32) (x2 : Int32) (x3 : Int32) : Int32 × MoT := if x1 = (2 : Int32) then m_X9_number_L16 100 mo x1 x2 x3 (0 : Int32) (10 : Int32) else m_X9_number_L16 100 mo x1 x2 x3 (0 : Int32) (1 : Int32)
theorem hd_X9_number : yX9_number.cls = RX9 ∧ yX9_number.cls ≠ "java/lang/invoke/MethodHandle" ∧ yX9_number.cls ≠ "java/lang/invoke/VarHandle" ∧ (parseMethodDescriptor yX9_number.desc).map (fun d => d.parameters.length) = some 3 := by decide +kernel
set_option maxHeartbeats 8000000 in
set_option maxRecDepth 20000 in
theorem c_X9_number (l : Launch) (D : va_G) (cy : Nat → ClassId) (a0 a1 a2 a3 a4 a5 a6 : Nat) (mo : MoT) (x1 : Int32) (x2 : Int32) (x3 : Int32) (hT : txtOK mo) : MU l D cy yX9_number wsX9_number ({ frames := 1, cells := 0, slots := 0, locals := 25 } : Room) (wMo cy a0 a1 a2 a3 a4 a5 a6 mo) (wMo cy a0 a1 a2 a3 a4 a5 a6 (m_X9_number mo x1 x2 x3).2) [.ref a0, .int x1, .int x2, .int x3] (m_X9_number mo x1 x2 x3).1 := by
  refine MU.body (by decide) rfl (Nat.le_of_ble_eq_true rfl) ?_
  intro p e s m below meth c hx hb hml hr hts hown hlocks hP hG ls hl A hD hA hS
  have hl : lv_has ls 8 [(0, .ref a0), (1, .int x1), (2, .int x2), (3, .int x3)] := hl
  have hCF : CallFix p m c cX9_number 8 s ([.ref a0, .int x1, .int x2, .int x3] : List Value).toArray wsX9_number RX9 := ⟨hx, hb, hml, hown, hts⟩
  have in_X9 : ∀ w ∈ u_ws RX9 TX9 11, w ∈ wsX9_number := fun _ h => List.mem_cons_of_mem _ (List.mem_append_right _ h)
  have k_0 := hts (Cond.fieldLink RX9 119 "SparePoolModel" "spot" "I") (List.mem_of_getElem? (i := 1) rfl)
  have k_1 := hts (Cond.fieldLink RX9 113 "SparePoolModel" "size" "I") (List.mem_of_getElem? (i := 2) rfl)
  have k_2 := hts (Cond.constantLong RX9 122 (9)) (List.mem_of_getElem? (i := 4) rfl)
  have k_3 := hts (Cond.fieldLink RX9 7 "SparePoolModel" "text" "[I") (List.mem_of_getElem? (i := 3) rfl)
  have hP : va_P D vwCl (wMo cy a0 a1 a2 a3 a4 a5 a6 mo) s.heap := hP
  have L_16 : ∀ (nF : Nat) (r : MoT) (v : Int32) (w : Int32), txtOK r → w.toInt.toNat < nF → m_X9_number_L16 nF r x1 x2 x3 v w = (m_X9_number mo x1 x2 x3) → ∀ (H : Heap) (locs : List Loc), va_P D vwCl (wMo cy a0 a1 a2 a3 a4 a5 a6 r) H → va_D A (wMo cy a0 a1 a2 a3 a4 a5 a6 r) → va_S A s.heap H locs → ∀ ls : Array Slot, lv_has ls 8 [(0, .ref a0), (1, .int x1), (2, .int x2), (3, .int x3), (4, .int v), (5, .int w)] → W p l e ({ frames := 1, cells := 0, slots := 0, locals := 25 } : Room) s m ([.ref a0, .int x1, .int x2, .int x3] : List Value).toArray below meth c H locs 0 0 (MQ below (va_Qi (fun v_ (_ : Unit) => v_ = (m_X9_number mo x1 x2 x3).1) (fun _ t => va_P D vwCl (wMo cy a0 a1 a2 a3 a4 a5 a6 (m_X9_number mo x1 x2 x3).2) t.heap) A) ([.ref a0, .int x1, .int x2, .int x3] : List Value).toArray s 0 0 A) (F0 m 16 ls []) := by
    intro nF
    induction nF with
    | zero => intro r v w hT hm; exact absurd hm (Nat.not_lt_zero _)
    | succ nF ih =>
      intro r v w hT hm hQ H locs hP hD hS ls hl
      refine lv_iload hx hb dX9_number_16 (lv_at hl 5 rfl) ?_
      refine lv_if_le (tgt := 116) hx hb dX9_number_18 (by decide) (fun c_1 => ?_) (fun c_1 => ?_)
      · skip
        refine lv_iload hx hb dX9_number_116 (lv_at hl 4 rfl) ?_
        exact mu_iret hx hb hr hlocks hP hS dX9_number_118 (by rw [← hQ, m_X9_number_L16, if_pos c_1]) (by rw [← hQ, m_X9_number_L16, if_pos c_1])
      · skip
        refine lv_aload_n hx hb dX9_number_21 rfl (lv_at hl 0 rfl) ?_
        refine va_get (D := D) (ci := 7) (v := .int (mP r)) (C := RX9) (T := TX9) (N := 11) hx hb hts in_X9 hown hG.1 hP 0 g_Mo_0 rfl 9 (by decide) k_0 (fun _ h9 => h9) rfl dX9_number_22 ?_
        refine lv_aload_n hx hb dX9_number_25 rfl (lv_at hl 0 rfl) ?_
        refine va_get (D := D) (ci := 7) (v := .int (mZ r)) (C := RX9) (T := TX9) (N := 11) hx hb hts in_X9 hown hG.1 hP 0 g_Mo_0 rfl 2 (by decide) k_1 (fun _ h9 => h9) rfl dX9_number_26 ?_
        refine lv_icmp_ge (tgt := 47) hx hb dX9_number_29 (by decide) (fun c_2 => ?_) (fun c_2 => ?_)
        · skip
          refine lv_iconst (v := (-1 : Int32)) hx hb dX9_number_47 (by decide) ?_
          refine lv_istore (lv' := [(6, .int (-1 : Int32)), (0, .ref a0), (1, .int x1), (2, .int x2), (3, .int x3), (4, .int v), (5, .int w)]) hx hb dX9_number_48 hl (by decide) rfl (fun ls hl => ?_)
          refine lv_iload hx hb dX9_number_50 (lv_at hl 5 rfl) ?_
          refine lv_iload hx hb dX9_number_52 (lv_at hl 0 rfl) ?_
          refine lv_iload hx hb dX9_number_54 (lv_at hl 6 rfl) ?_
          refine lv_imul hx hb dX9_number_56 ?_
          refine lv_iadd hx hb dX9_number_57 ?_
          refine lv_istore (lv' := [(7, .int (v + ((-1 : Int32) * w))), (6, .int (-1 : Int32)), (0, .ref a0), (1, .int x1), (2, .int x2), (3, .int x3), (4, .int v), (5, .int w)]) hx hb dX9_number_58 hl (by decide) rfl (fun ls hl => ?_)
          refine lv_iload hx hb dX9_number_60 (lv_at hl 1 rfl) ?_
          refine lv_i2l hx hb dX9_number_62 rfl ?_
          refine lv_lconst (v := (0 : Int64)) hx hb dX9_number_63 (by decide) ?_
          refine lv_ldc2 (v := (9 : Int64)) hx hb hown k_2 dX9_number_64 ?_
          refine roS (wc := ([] : va_W)) (As := [.long (-1 : Int32).toInt64, .long (0 : Int64), .long (9 : Int64)]) (rest := []) (c_X9_in l D cy (-1 : Int32).toInt64 (0 : Int64) (9 : Int64)) hCF gX9_number_X9_in rfl hd_X9_in ⟨rfl, rfl, Nat.le_of_ble_eq_true rfl, Nat.le_of_ble_eq_true rfl⟩ hG va_P_nil rfl hl.1 rfl (Nat.le_of_ble_eq_true rfl) dX9_number_67 ⟨Nat.le_refl _, Nat.le_refl _⟩ ?_
          refine lv_if_eq (tgt := 90) hx hb dX9_number_70 (by decide) (fun _ => ?_) (fun c => absurd (by decide) c)
          refine lv_iconst (v := (-1 : Int32)) hx hb dX9_number_90 (by decide) ?_
          exact mu_iret hx hb hr hlocks hP hS dX9_number_91 (by rw [← hQ, m_X9_number_L16, if_neg c_1, if_pos c_2]) (by rw [← hQ, m_X9_number_L16, if_neg c_1, if_pos c_2])
        · skip
          refine lv_aload_n hx hb dX9_number_32 rfl (lv_at hl 0 rfl) ?_
          refine va_get (D := D) (ci := 7) (v := .ref a1) (C := RX9) (T := TX9) (N := 11) hx hb hts in_X9 hown hG.1 hP 0 g_Mo_0 rfl 1 (by decide) k_3 (fun _ h9 => h9) rfl dX9_number_33 ?_
          refine lv_aload_n hx hb dX9_number_36 rfl (lv_at hl 0 rfl) ?_
          refine va_get (D := D) (ci := 7) (v := .int (mP r)) (C := RX9) (T := TX9) (N := 11) hx hb hts in_X9 hown hG.1 hP 0 g_Mo_0 rfl 9 (by decide) k_0 (fun _ h9 => h9) rfl dX9_number_37 ?_
          refine va_iald hx hb hG.1 hP 1 0 (n := 120) (f := (mT r)) g_Mo_1 rfl (nb_t hT c_2) dX9_number_40 ?_
          refine lv_bipush (v := (48 : Int32)) hx hb dX9_number_41 (by decide) ?_
          refine lv_isub hx hb dX9_number_43 ?_
          refine lv_goto (tgt := 48) hx hb dX9_number_44 (by decide) ?_
          refine lv_istore (lv' := [(6, .int (((mT r) (mP r).toNatClampNeg) - (48 : Int32))), (0, .ref a0), (1, .int x1), (2, .int x2), (3, .int x3), (4, .int v), (5, .int w)]) hx hb dX9_number_48 hl (by decide) rfl (fun ls hl => ?_)
          refine lv_iload hx hb dX9_number_50 (lv_at hl 5 rfl) ?_
          refine lv_iload hx hb dX9_number_52 (lv_at hl 0 rfl) ?_
          refine lv_iload hx hb dX9_number_54 (lv_at hl 6 rfl) ?_
          refine lv_imul hx hb dX9_number_56 ?_
          refine lv_iadd hx hb dX9_number_57 ?_
          refine lv_istore (lv' := [(7, .int (v + ((((mT r) (mP r).toNatClampNeg) - (48 : Int32)) * w))), (6, .int (((mT r) (mP r).toNatClampNeg) - (48 : Int32))), (0, .ref a0), (1, .int x1), (2, .int x2), (3, .int x3), (4, .int v), (5, .int w)]) hx hb dX9_number_58 hl (by decide) rfl (fun ls hl => ?_)
          refine lv_iload hx hb dX9_number_60 (lv_at hl 1 rfl) ?_
          refine lv_i2l hx hb dX9_number_62 rfl ?_
          refine lv_lconst (v := (0 : Int64)) hx hb dX9_number_63 (by decide) ?_
          refine lv_ldc2 (v := (9 : Int64)) hx hb hown k_2 dX9_number_64 ?_
          refine roS (wc := ([] : va_W)) (As := [.long (((mT r) (mP r).toNatClampNeg) - (48 : Int32)).toInt64, .long (0 : Int64), .long (9 : Int64)]) (rest := []) (c_X9_in l D cy (((mT r) (mP r).toNatClampNeg) - (48 : Int32)).toInt64 (0 : Int64) (9 : Int64)) hCF gX9_number_X9_in rfl hd_X9_in ⟨rfl, rfl, Nat.le_of_ble_eq_true rfl, Nat.le_of_ble_eq_true rfl⟩ hG va_P_nil rfl hl.1 rfl (Nat.le_of_ble_eq_true rfl) dX9_number_67 ⟨Nat.le_refl _, Nat.le_refl _⟩ ?_
          refine lv_if_eq (tgt := 90) hx hb dX9_number_70 (by decide) (fun c_3 => ?_) (fun c_3 => ?_)
          · skip
            refine lv_iconst (v := (-1 : Int32)) hx hb dX9_number_90 (by decide) ?_
            exact mu_iret hx hb hr hlocks hP hS dX9_number_91 (by rw [← hQ, m_X9_number_L16, if_neg c_1, if_neg c_2, if_pos c_3]) (by rw [← hQ, m_X9_number_L16, if_neg c_1, if_neg c_2, if_pos c_3])
          · skip
            refine lv_iload hx hb dX9_number_73 (lv_at hl 0 rfl) ?_
            refine lv_iload_n hx hb dX9_number_75 rfl (lv_at hl 5 rfl) ?_
            refine lv_icmp_gt (tgt := 90) hx hb dX9_number_76 (by decide) (fun c_4 => ?_) (fun c_4 => ?_)
            · skip
              refine lv_iconst (v := (-1 : Int32)) hx hb dX9_number_90 (by decide) ?_
              exact mu_iret hx hb hr hlocks hP hS dX9_number_91 (by rw [← hQ, m_X9_number_L16, if_neg c_1, if_neg c_2, if_neg c_3, if_pos c_4]) (by rw [← hQ, m_X9_number_L16, if_neg c_1, if_neg c_2, if_neg c_3, if_pos c_4])
            · skip
              refine lv_iload hx hb dX9_number_79 (lv_at hl 0 rfl) ?_
              refine lv_iload hx hb dX9_number_81 (lv_at hl 7 rfl) ?_
              refine lv_iadd hx hb dX9_number_83 ?_
              refine lv_iconst (v := (1 : Int32)) hx hb dX9_number_84 (by decide) ?_
              refine lv_isub hx hb dX9_number_85 ?_
              refine lv_iload_n hx hb dX9_number_86 rfl (lv_at hl 4 rfl) ?_
              refine lv_icmp_ge (tgt := 92) hx hb dX9_number_87 (by decide) (fun c_5 => ?_) (fun c_5 => ?_)
              · skip
                refine lv_iload hx hb dX9_number_92 (lv_at hl 0 rfl) ?_
                refine lv_istore (lv' := [(4, .int (v + ((((mT r) (mP r).toNatClampNeg) - (48 : Int32)) * w))), (7, .int (v + ((((mT r) (mP r).toNatClampNeg) - (48 : Int32)) * w))), (6, .int (((mT r) (mP r).toNatClampNeg) - (48 : Int32))), (0, .ref a0), (1, .int x1), (2, .int x2), (3, .int x3), (5, .int w)]) hx hb dX9_number_94 hl (by decide) rfl (fun ls hl => ?_)
                refine lv_aload_n hx hb dX9_number_96 rfl (lv_at hl 3 rfl) ?_
                refine lv_dup hx hb dX9_number_97 rfl ?_
                refine va_get (D := D) (ci := 7) (v := .int (mP r)) (C := RX9) (T := TX9) (N := 11) hx hb hts in_X9 hown hG.1 hP 0 g_Mo_0 rfl 9 (by decide) k_0 (fun _ h9 => h9) rfl dX9_number_98 ?_
                refine lv_iconst (v := (1 : Int32)) hx hb dX9_number_101 (by decide) ?_
                refine lv_iadd hx hb dX9_number_102 ?_
                refine va_put (D := D) (ci := 7) (v := .int ((mP r) + (1 : Int32))) (ty := .int) (C := RX9) (T := TX9) (N := 11) hx hb hts in_X9 tyX9 tyX9_ok nmX9 hown hG.1 hP hD hS 0 g_Mo_0 rfl 9 (by decide) k_0 (fun _ h9 => h9) rfl (by decide +kernel) rfl rfl (Nat.le_of_ble_eq_true rfl) dX9_number_103 (fun H locs hP hD hS => ?_)
                have hP : va_P D vwCl (wMo cy a0 a1 a2 a3 a4 a5 a6 (mP' r ((mP r) + (1 : Int32)))) H := va_P_eq hP s_Mo_0_9
                have hD : va_D A (wMo cy a0 a1 a2 a3 a4 a5 a6 (mP' r ((mP r) + (1 : Int32)))) := va_D_eq hD s_Mo_0_9
                refine lv_iload hx hb dX9_number_106 (lv_at hl 7 rfl) ?_
                refine lv_bipush (v := (10 : Int32)) hx hb dX9_number_108 (by decide) ?_
                refine lv_idiv hx hb dX9_number_110 (by decide) ?_
                refine lv_istore (lv' := [(5, .int (w / (10 : Int32))), (4, .int (v + ((((mT r) (mP r).toNatClampNeg) - (48 : Int32)) * w))), (7, .int (v + ((((mT r) (mP r).toNatClampNeg) - (48 : Int32)) * w))), (6, .int (((mT r) (mP r).toNatClampNeg) - (48 : Int32))), (0, .ref a0), (1, .int x1), (2, .int x2), (3, .int x3)]) hx hb dX9_number_111 hl (by decide) rfl (fun ls hl => ?_)
                refine lv_goto (tgt := 16) hx hb dX9_number_113 (by decide) ?_
                exact ih  (mP' r ((mP r) + (1 : Int32))) (v + ((((mT r) (mP r).toNatClampNeg) - (48 : Int32)) * w)) (w / (10 : Int32)) (nb_up hT c_2) (nb_dec c_1 hm) (by rw [← hQ, m_X9_number_L16, if_neg c_1, if_neg c_2, if_neg c_3, if_neg c_4, if_pos c_5]) H locs hP hD hS ls (lv_sub hl [4, 5, 6, 7, 1, 0] rfl)
              · skip
                refine lv_iconst (v := (-1 : Int32)) hx hb dX9_number_90 (by decide) ?_
                exact mu_iret hx hb hr hlocks hP hS dX9_number_91 (by rw [← hQ, m_X9_number_L16, if_neg c_1, if_neg c_2, if_neg c_3, if_neg c_4, if_neg c_5]) (by rw [← hQ, m_X9_number_L16, if_neg c_1, if_neg c_2, if_neg c_3, if_neg c_4, if_neg c_5])
  refine lv_iconst (v := (0 : Int32)) hx hb dX9_number_0 (by decide) ?_
  refine lv_istore (lv' := [(4, .int (0 : Int32)), (0, .ref a0), (1, .int x1), (2, .int x2), (3, .int x3)]) hx hb dX9_number_1 hl (by decide) rfl (fun ls hl => ?_)
  refine lv_iload_n hx hb dX9_number_3 rfl (lv_at hl 2 rfl) ?_
  refine lv_iconst (v := (2 : Int32)) hx hb dX9_number_4 (by decide) ?_
  refine lv_icmp_ne (tgt := 13) hx hb dX9_number_5 (by decide) (fun c_6 => ?_) (fun c_6 => ?_)
  · skip
    refine lv_iconst (v := (1 : Int32)) hx hb dX9_number_13 (by decide) ?_
    refine lv_istore (lv' := [(5, .int (1 : Int32)), (4, .int (0 : Int32)), (0, .ref a0), (1, .int x1), (2, .int x2), (3, .int x3)]) hx hb dX9_number_14 hl (by decide) rfl (fun ls hl => ?_)
    exact L_16 100 mo (0 : Int32) (1 : Int32) hT (by decide) (by rw [m_X9_number, if_neg c_6]) s.heap [] hP hD hS ls (lv_sub hl [2, 3, 4, 5, 1, 0] rfl)
  · skip
    refine lv_bipush (v := (10 : Int32)) hx hb dX9_number_8 (by decide) ?_
    refine lv_goto (tgt := 14) hx hb dX9_number_10 (by decide) ?_
    refine lv_istore (lv' := [(5, .int (10 : Int32)), (4, .int (0 : Int32)), (0, .ref a0), (1, .int x1), (2, .int x2), (3, .int x3)]) hx hb dX9_number_14 hl (by decide) rfl (fun ls hl => ?_)
    exact L_16 100 mo (0 : Int32) (10 : Int32) hT (by decide) (by rw [m_X9_number, if_pos c_6]) s.heap [] hP hD hS ls (lv_sub hl [2, 3, 4, 5, 1, 0] rfl)
/-- number: only the place moves, forward, and not beyond the text -/
theorem nb_loop (x1 x2 x3 : Int32) : ∀ (nF : Nat) (r : MoT) (v w : Int32), ∃ p : Int32, (m_X9_number_L16 nF r x1 x2 x3 v w).2 = mP' r p ∧ (txtOK r → (mP r).toInt ≤ p.toInt ∧ txtOK (mP' r p)) := by
  intro nF
  induction nF with
  | zero => intro r v w; exact ⟨mP r, rfl, fun h => ⟨Int.le_refl _, h⟩⟩
  | succ nF ih =>
    intro r v w
    have stay : ∃ p : Int32, r = mP' r p ∧ (txtOK r → (mP r).toInt ≤ p.toInt ∧ txtOK (mP' r p)) := ⟨mP r, rfl, fun h => ⟨Int.le_refl _, h⟩⟩
    rw [m_X9_number_L16]
    split
    · exact stay
    · split
      · exact stay
      · rename_i hz
        have go : ∀ (v w : Int32), ∃ p : Int32, (m_X9_number_L16 nF (mP' r (mP r + 1)) x1 x2 x3 v w).2 = mP' r p ∧ (txtOK r → (mP r).toInt ≤ p.toInt ∧ txtOK (mP' r p)) := by
          intro v w
          obtain ⟨p, h1, h2⟩ := ih (mP' r (mP r + 1)) v w
          refine ⟨p, h1, fun ht => ?_⟩
          have ht2 := nb_up ht hz
          obtain ⟨h3, h4⟩ := h2 ht2
          refine ⟨?_, h4⟩
          rw [i32_le] at hz
          have g1 := ht.1.1
          have g2 := ht.2.2
          rw [mP_mP', i32_add (by rw [i32_1]; omega) (by rw [i32_1]; omega), i32_1] at h3
          omega
        repeat' split
        all_goals first | exact stay | exact go _ _
theorem nb_form (mo : MoT) (x1 x2 x3 : Int32) : ∃ p : Int32, (m_X9_number mo x1 x2 x3).2 = mP' mo p ∧ (txtOK mo → (mP mo).toInt ≤ p.toInt ∧ txtOK (mP' mo p)) := by
  unfold m_X9_number
  repeat' split
  all_goals exact nb_loop _ _ _ _ _ _ _
theorem nb_T {mo : MoT} {x1 x2 x3 : Int32} (h : txtOK mo) : txtOK (m_X9_number mo x1 x2 x3).2 := by
  obtain ⟨p, e, k⟩ := nb_form mo x1 x2 x3
  rw [e]
  exact (k h).2
theorem nb_W {mo : MoT} {x1 x2 x3 : Int32} (h : rOK (mW mo)) : rOK (mW (m_X9_number mo x1 x2 x3).2) := by
  obtain ⟨p, e, -⟩ := nb_form mo x1 x2 x3
  rw [e]
  exact h
theorem nb_le {mo : MoT} {x1 x2 x3 : Int32} (h : txtOK mo) : (mP mo).toInt ≤ (mP (m_X9_number mo x1 x2 x3).2).toInt := by
  obtain ⟨p, e, k⟩ := nb_form mo x1 x2 x3
  rw [e]
  exact (k h).1
theorem nb_Z {mo : MoT} {x1 x2 x3 : Int32} : mZ (m_X9_number mo x1 x2 x3).2 = mZ mo := by
  obtain ⟨p, e, -⟩ := nb_form mo x1 x2 x3
  rw [e]
  rfl
