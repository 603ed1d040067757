def m_X5_tryExchange (st : StT) (x1 : Int32) (x2 : Int32) : Int32 × StT := if (m_X7_has (sU st) x1) = (0 : Int32) then ((-1 : Int32), st) else if (m_X7_has (sU st) x2) = (0 : Int32) then ((-1 : Int32), st) else if (m_X7_isFreeCore (sU st) x1) = (0 : Int32) then ((-3 : Int32), st) else if (m_X7_isGoodSpare (sU st) x2) = (0 : Int32) then ((-3 : Int32), st) else if ((uK (sU st)) x1.toNatClampNeg) = ((uK (sU st)) x2.toNatClampNeg) then (m_X5_priceForCore st x1, sX' (m_X5_pay (sU' st (m_X7_giveTo (m_X7_giveTo (sU st) x1 (4 : Int32)) x2 ((uO (sU st)) x1.toNatClampNeg))) ((uO (sU st)) x1.toNatClampNeg) (4 : Int32) (m_X5_priceForCore st x1)) ((sX (m_X5_pay (sU' st (m_X7_giveTo (m_X7_giveTo (sU st) x1 (4 : Int32)) x2 ((uO (sU st)) x1.toNatClampNeg))) ((uO (sU st)) x1.toNatClampNeg) (4 : Int32) (m_X5_priceForCore st x1))) + (1 : Int32))) else ((-3 : Int32), st)
theorem hd_X5_tryExchange : yX5_tryExchange.cls = RX5 ∧ yX5_tryExchange.cls ≠ "java/lang/invoke/MethodHandle" ∧ yX5_tryExchange.cls ≠ "java/lang/invoke/VarHandle" ∧ (parseMethodDescriptor yX5_tryExchange.desc).map (fun d => d.parameters.length) = some 2 := by decide +kernel
set_option maxHeartbeats 8000000 in
set_option maxRecDepth 20000 in
theorem c_X5_tryExchange (l : Launch) (D : va_G) (cy : Nat → ClassId) (a : Nat → Nat) (st : StT) (x1 : Int32) (x2 : Int32) (hOK : stOK st) : MU l D cy yX5_tryExchange wsX5_tryExchange ({ frames := 3, cells := 0, slots := 0, locals := 63 } : Room) (wSt cy a st) (wSt cy a (m_X5_tryExchange st x1 x2).2) [.ref (a 0), .int x1, .int x2] (m_X5_tryExchange st x1 x2).1 := by
  refine MU.body (by decide) rfl (Nat.le_of_ble_eq_true rfl) ?_
  intro p e s m below meth c hx hb hml hr hts hown hlocks hP hG ls hl A hD hA hS
  have hl : lv_has ls 5 [(0, .ref (a 0)), (1, .int x1), (2, .int x2)] := hl
  have hCF : CallFix p m c cX5_tryExchange 5 s ([.ref (a 0), .int x1, .int x2] : List Value).toArray wsX5_tryExchange RX5 := ⟨hx, hb, hml, hown, hts⟩
  have in_X5 : ∀ w ∈ u_ws RX5 TX5 9, w ∈ wsX5_tryExchange := fun _ h => List.mem_cons_of_mem _ (List.mem_append_left _ (List.mem_append_right _ h))
  have in_X7 : ∀ w ∈ u_ws RX7 TX7 6, w ∈ wsX5_tryExchange := fun _ h => List.mem_cons_of_mem _ (List.mem_append_right _ h)
  have k_0 := hts (Cond.fieldLink RX5 12 "SparePool$State" "units" "LSparePool$Units;") (List.mem_of_getElem? (i := 1) rfl)
  have k_1 := hts (Cond.initialized RX7) (List.mem_of_getElem? (i := 4) rfl)
  have k_2 := hts (Cond.instanceMethod yX7_has) (List.mem_of_getElem? (i := 3) rfl)
  have k_3 := hts (Cond.selects RX7 yX7_has yX7_has) (List.mem_of_getElem? (i := 5) rfl)
  have k_4 := hts (Cond.instanceMethod yX7_isFreeCore) (List.mem_of_getElem? (i := 8) rfl)
  have k_5 := hts (Cond.selects RX7 yX7_isFreeCore yX7_isFreeCore) (List.mem_of_getElem? (i := 9) rfl)
  have k_6 := hts (Cond.instanceMethod yX7_isGoodSpare) (List.mem_of_getElem? (i := 18) rfl)
  have k_7 := hts (Cond.selects RX7 yX7_isGoodSpare yX7_isGoodSpare) (List.mem_of_getElem? (i := 19) rfl)
  have k_8 := hts (Cond.instanceMethod yX7_giveTo) (List.mem_of_getElem? (i := 42) rfl)
  have k_9 := hts (Cond.selects RX7 yX7_giveTo yX7_giveTo) (List.mem_of_getElem? (i := 43) rfl)
  have k_10 := hts (Cond.fieldLink RX5 62 "SparePool$State" "exchangesSoFar" "I") (List.mem_of_getElem? (i := 2) rfl)
  have hP : va_P D vwCl (wSt cy a st) s.heap := hP
  refine lv_aload_n hx hb dX5_tryExchange_0 rfl (lv_at hl 0 rfl) ?_
  refine va_get (D := D) (ci := 3) (v := .ref (a 1)) (C := RX5) (T := TX5) (N := 9) hx hb hts in_X5 hown hG.1 hP 0 g_St_0 rfl 0 (by decide) k_0 (fun _ h9 => h9) rfl dX5_tryExchange_1 ?_
  refine lv_iload_n hx hb dX5_tryExchange_4 rfl (lv_at hl 1 rfl) ?_
  refine roVN (wc := (wUn cy (a 1) (a 2) (a 3) (a 4) (a 5) (a 6) (sU st))) (As := [.int x1]) (rest := []) (c_X7_has l D cy (a 1) (a 2) (a 3) (a 4) (a 5) (a 6) (sU st) x1 hOK.1) hCF gX5_tryExchange_X7_has_n89 (nw_X5_89 hG.2) k_1 k_2 k_3 rfl hd_X7_has ⟨rfl, rfl, Nat.le_of_ble_eq_true rfl, Nat.le_of_ble_eq_true rfl⟩ hG (hP.sub (ws' := (wUn cy (a 1) (a 2) (a 3) (a 4) (a 5) (a 6) (sU st))) [1, 2, 3, 4, 5, 6] u_St_Un) (ci := 5) rfl rfl g_Un_0 rfl hl.1 rfl (Nat.le_of_ble_eq_true rfl) dX5_tryExchange_5 ⟨Nat.le_refl _, Nat.le_refl _⟩ ?_
  refine lv_if_eq (tgt := 22) hx hb dX5_tryExchange_8 (by decide) (fun c_1 => ?_) (fun c_1 => ?_)
  · skip
    refine lv_iconst (v := (-1 : Int32)) hx hb dX5_tryExchange_22 (by decide) ?_
    exact mu_iret hx hb hr hlocks hP hS dX5_tryExchange_23 (by rw [m_X5_tryExchange, if_pos c_1]) (by rw [m_X5_tryExchange, if_pos c_1])
  · skip
    refine lv_aload_n hx hb dX5_tryExchange_11 rfl (lv_at hl 0 rfl) ?_
    refine va_get (D := D) (ci := 3) (v := .ref (a 1)) (C := RX5) (T := TX5) (N := 9) hx hb hts in_X5 hown hG.1 hP 0 g_St_0 rfl 0 (by decide) k_0 (fun _ h9 => h9) rfl dX5_tryExchange_12 ?_
    refine lv_iload_n hx hb dX5_tryExchange_15 rfl (lv_at hl 2 rfl) ?_
    refine roVN (wc := (wUn cy (a 1) (a 2) (a 3) (a 4) (a 5) (a 6) (sU st))) (As := [.int x2]) (rest := []) (c_X7_has l D cy (a 1) (a 2) (a 3) (a 4) (a 5) (a 6) (sU st) x2 hOK.1) hCF gX5_tryExchange_X7_has_n89 (nw_X5_89 hG.2) k_1 k_2 k_3 rfl hd_X7_has ⟨rfl, rfl, Nat.le_of_ble_eq_true rfl, Nat.le_of_ble_eq_true rfl⟩ hG (hP.sub (ws' := (wUn cy (a 1) (a 2) (a 3) (a 4) (a 5) (a 6) (sU st))) [1, 2, 3, 4, 5, 6] u_St_Un) (ci := 5) rfl rfl g_Un_0 rfl hl.1 rfl (Nat.le_of_ble_eq_true rfl) dX5_tryExchange_16 ⟨Nat.le_refl _, Nat.le_refl _⟩ ?_
    refine lv_if_ne (tgt := 24) hx hb dX5_tryExchange_19 (by decide) (fun c_2 => ?_) (fun c_2 => ?_)
    · skip
      refine lv_aload_n hx hb dX5_tryExchange_24 rfl (lv_at hl 0 rfl) ?_
      refine va_get (D := D) (ci := 3) (v := .ref (a 1)) (C := RX5) (T := TX5) (N := 9) hx hb hts in_X5 hown hG.1 hP 0 g_St_0 rfl 0 (by decide) k_0 (fun _ h9 => h9) rfl dX5_tryExchange_25 ?_
      refine lv_iload_n hx hb dX5_tryExchange_28 rfl (lv_at hl 1 rfl) ?_
      refine roVN (wc := (wUn cy (a 1) (a 2) (a 3) (a 4) (a 5) (a 6) (sU st))) (As := [.int x1]) (rest := []) (c_X7_isFreeCore l D cy (a 1) (a 2) (a 3) (a 4) (a 5) (a 6) (sU st) x1 hOK.1) hCF gX5_tryExchange_X7_isFreeCore_n119 (nw_X5_119 hG.2) k_1 k_4 k_5 rfl hd_X7_isFreeCore ⟨rfl, rfl, Nat.le_of_ble_eq_true rfl, Nat.le_of_ble_eq_true rfl⟩ hG (hP.sub (ws' := (wUn cy (a 1) (a 2) (a 3) (a 4) (a 5) (a 6) (sU st))) [1, 2, 3, 4, 5, 6] u_St_Un) (ci := 5) rfl rfl g_Un_0 rfl hl.1 rfl (Nat.le_of_ble_eq_true rfl) dX5_tryExchange_29 ⟨Nat.le_refl _, Nat.le_refl _⟩ ?_
      refine lv_if_eq (tgt := 67) hx hb dX5_tryExchange_32 (by decide) (fun c_3 => ?_) (fun c_3 => ?_)
      · skip
        refine lv_bipush (v := (-3 : Int32)) hx hb dX5_tryExchange_67 (by decide) ?_
        exact mu_iret hx hb hr hlocks hP hS dX5_tryExchange_69 (by rw [m_X5_tryExchange, if_neg c_1, if_neg c_2, if_pos c_3]) (by rw [m_X5_tryExchange, if_neg c_1, if_neg c_2, if_pos c_3])
      · skip
        refine lv_aload_n hx hb dX5_tryExchange_35 rfl (lv_at hl 0 rfl) ?_
        refine va_get (D := D) (ci := 3) (v := .ref (a 1)) (C := RX5) (T := TX5) (N := 9) hx hb hts in_X5 hown hG.1 hP 0 g_St_0 rfl 0 (by decide) k_0 (fun _ h9 => h9) rfl dX5_tryExchange_36 ?_
        refine lv_iload_n hx hb dX5_tryExchange_39 rfl (lv_at hl 2 rfl) ?_
        refine roVN (wc := (wUn cy (a 1) (a 2) (a 3) (a 4) (a 5) (a 6) (sU st))) (As := [.int x2]) (rest := []) (c_X7_isGoodSpare l D cy (a 1) (a 2) (a 3) (a 4) (a 5) (a 6) (sU st) x2 hOK.1) hCF gX5_tryExchange_X7_isGoodSpare_n122 (nw_X5_122 hG.2) k_1 k_6 k_7 rfl hd_X7_isGoodSpare ⟨rfl, rfl, Nat.le_of_ble_eq_true rfl, Nat.le_of_ble_eq_true rfl⟩ hG (hP.sub (ws' := (wUn cy (a 1) (a 2) (a 3) (a 4) (a 5) (a 6) (sU st))) [1, 2, 3, 4, 5, 6] u_St_Un) (ci := 5) rfl rfl g_Un_0 rfl hl.1 rfl (Nat.le_of_ble_eq_true rfl) dX5_tryExchange_40 ⟨Nat.le_refl _, Nat.le_refl _⟩ ?_
        refine lv_if_eq (tgt := 67) hx hb dX5_tryExchange_43 (by decide) (fun c_4 => ?_) (fun c_4 => ?_)
        · skip
          refine lv_bipush (v := (-3 : Int32)) hx hb dX5_tryExchange_67 (by decide) ?_
          exact mu_iret hx hb hr hlocks hP hS dX5_tryExchange_69 (by rw [m_X5_tryExchange, if_neg c_1, if_neg c_2, if_neg c_3, if_pos c_4]) (by rw [m_X5_tryExchange, if_neg c_1, if_neg c_2, if_neg c_3, if_pos c_4])
        · skip
          refine lv_aload_n hx hb dX5_tryExchange_46 rfl (lv_at hl 0 rfl) ?_
          refine va_get (D := D) (ci := 3) (v := .ref (a 1)) (C := RX5) (T := TX5) (N := 9) hx hb hts in_X5 hown hG.1 hP 0 g_St_0 rfl 0 (by decide) k_0 (fun _ h9 => h9) rfl dX5_tryExchange_47 ?_
          refine va_getN (D := D) (ci := 5) (v := .ref (a 2)) (C := RX7) (T := TX7) (N := 6) hx hb hts in_X7 hown hG.1 hP 1 g_St_1 rfl 0 (by decide) (va_Nw.use rfl (nw_X5_125 hG.2)) (fun _ h9 => h9) rfl dX5_tryExchange_50 ?_
          refine lv_iload_n hx hb dX5_tryExchange_53 rfl (lv_at hl 1 rfl) ?_
          refine va_iald hx hb hG.1 hP 2 0 (n := 16) (f := (uK (sU st))) g_St_2 rfl (bd_has hOK.1 c_1) dX5_tryExchange_54 ?_
          refine lv_aload_n hx hb dX5_tryExchange_55 rfl (lv_at hl 0 rfl) ?_
          refine va_get (D := D) (ci := 3) (v := .ref (a 1)) (C := RX5) (T := TX5) (N := 9) hx hb hts in_X5 hown hG.1 hP 0 g_St_0 rfl 0 (by decide) k_0 (fun _ h9 => h9) rfl dX5_tryExchange_56 ?_
          refine va_getN (D := D) (ci := 5) (v := .ref (a 2)) (C := RX7) (T := TX7) (N := 6) hx hb hts in_X7 hown hG.1 hP 1 g_St_1 rfl 0 (by decide) (va_Nw.use rfl (nw_X5_125 hG.2)) (fun _ h9 => h9) rfl dX5_tryExchange_59 ?_
          refine lv_iload_n hx hb dX5_tryExchange_62 rfl (lv_at hl 2 rfl) ?_
          refine va_iald hx hb hG.1 hP 2 0 (n := 16) (f := (uK (sU st))) g_St_2 rfl (bd_has hOK.1 c_2) dX5_tryExchange_63 ?_
          refine lv_icmp_eq (tgt := 70) hx hb dX5_tryExchange_64 (by decide) (fun c_5 => ?_) (fun c_5 => ?_)
          · skip
            refine lv_aload_n hx hb dX5_tryExchange_70 rfl (lv_at hl 0 rfl) ?_
            refine va_get (D := D) (ci := 3) (v := .ref (a 1)) (C := RX5) (T := TX5) (N := 9) hx hb hts in_X5 hown hG.1 hP 0 g_St_0 rfl 0 (by decide) k_0 (fun _ h9 => h9) rfl dX5_tryExchange_71 ?_
            refine va_getN (D := D) (ci := 5) (v := .ref (a 3)) (C := RX7) (T := TX7) (N := 6) hx hb hts in_X7 hown hG.1 hP 1 g_St_1 rfl 1 (by decide) (va_Nw.use rfl (nw_X5_98 hG.2)) (fun _ h9 => h9) rfl dX5_tryExchange_74 ?_
            refine lv_iload_n hx hb dX5_tryExchange_77 rfl (lv_at hl 1 rfl) ?_
            refine va_iald hx hb hG.1 hP 3 0 (n := 16) (f := (uO (sU st))) g_St_3 rfl (bd_has hOK.1 c_1) dX5_tryExchange_78 ?_
            refine lv_istore_n (lv' := [(3, .int ((uO (sU st)) x1.toNatClampNeg)), (0, .ref (a 0)), (1, .int x1), (2, .int x2)]) hx hb dX5_tryExchange_79 rfl hl (by decide) rfl (fun ls hl => ?_)
            refine lv_aload_n hx hb dX5_tryExchange_80 rfl (lv_at hl 1 rfl) ?_
            refine lv_iload_n hx hb dX5_tryExchange_81 rfl (lv_at hl 2 rfl) ?_
            refine roV (wc := (wSt cy a st)) (As := [.int x1]) (rest := []) (c_X5_priceForCore l D cy a st x1 hOK) hCF gX5_tryExchange_X5_priceForCore rfl hd_X5_priceForCore ⟨rfl, rfl, Nat.le_of_ble_eq_true rfl, Nat.le_of_ble_eq_true rfl⟩ hG hP (ci := 3) rfl rfl g_St_0 rfl hl.1 rfl (Nat.le_of_ble_eq_true rfl) dX5_tryExchange_82 ⟨Nat.le_refl _, Nat.le_refl _⟩ ?_
            refine lv_istore (lv' := [(4, .int (m_X5_priceForCore st x1)), (3, .int ((uO (sU st)) x1.toNatClampNeg)), (0, .ref (a 0)), (1, .int x1), (2, .int x2)]) hx hb dX5_tryExchange_85 hl (by decide) rfl (fun ls hl => ?_)
            refine lv_aload_n hx hb dX5_tryExchange_87 rfl (lv_at hl 2 rfl) ?_
            refine va_get (D := D) (ci := 3) (v := .ref (a 1)) (C := RX5) (T := TX5) (N := 9) hx hb hts in_X5 hown hG.1 hP 0 g_St_0 rfl 0 (by decide) k_0 (fun _ h9 => h9) rfl dX5_tryExchange_88 ?_
            refine lv_iload_n hx hb dX5_tryExchange_91 rfl (lv_at hl 3 rfl) ?_
            refine lv_iconst (v := (4 : Int32)) hx hb dX5_tryExchange_92 (by decide) ?_
            refine mvVN (A0 := A) (wc := (wUn cy (a 1) (a 2) (a 3) (a 4) (a 5) (a 6) (sU st))) (As := [.int x1, .int (4 : Int32)]) (rest := []) (c_X7_giveTo l D cy (a 1) (a 2) (a 3) (a 4) (a 5) (a 6) (sU st) x1 (4 : Int32) hOK.1) hCF gX5_tryExchange_X7_giveTo_n115 (nw_X5_115 hG.2) k_1 k_8 k_9 rfl hd_X7_giveTo ⟨rfl, rfl, Nat.le_of_ble_eq_true rfl, Nat.le_of_ble_eq_true rfl⟩ hG hP hD hS hA [1, 2, 3, 4, 5, 6] rfl c_St_Un h_Un (ci := 5) rfl rfl g_Un_0 rfl hl.1 rfl (Nat.le_of_ble_eq_true rfl) dX5_tryExchange_93 ⟨Nat.le_refl _, Nat.le_refl _⟩ (fun H locs hP hD hS => ?_)
            have hP : va_P D vwCl (wSt cy a (sU' st (m_X7_giveTo (sU st) x1 (4 : Int32)))) H := va_P_eq hP r_St_Un
            have hD : va_D A (wSt cy a (sU' st (m_X7_giveTo (sU st) x1 (4 : Int32)))) := va_D_eq hD r_St_Un
            refine lv_aload_n hx hb dX5_tryExchange_96 rfl (lv_at hl 2 rfl) ?_
            refine va_get (D := D) (ci := 3) (v := .ref (a 1)) (C := RX5) (T := TX5) (N := 9) hx hb hts in_X5 hown hG.1 hP 0 g_St_0 rfl 0 (by decide) k_0 (fun _ h9 => h9) rfl dX5_tryExchange_97 ?_
            refine lv_iload_n hx hb dX5_tryExchange_100 rfl (lv_at hl 4 rfl) ?_
            refine lv_iload_n hx hb dX5_tryExchange_101 rfl (lv_at hl 1 rfl) ?_
            refine mvVN (A0 := A) (wc := (wUn cy (a 1) (a 2) (a 3) (a 4) (a 5) (a 6) (m_X7_giveTo (sU st) x1 (4 : Int32)))) (As := [.int x2, .int ((uO (sU st)) x1.toNatClampNeg)]) (rest := []) (c_X7_giveTo l D cy (a 1) (a 2) (a 3) (a 4) (a 5) (a 6) (m_X7_giveTo (sU st) x1 (4 : Int32)) x2 ((uO (sU st)) x1.toNatClampNeg) (ok_giveTo hOK.1)) hCF gX5_tryExchange_X7_giveTo_n115 (nw_X5_115 hG.2) k_1 k_8 k_9 rfl hd_X7_giveTo ⟨rfl, rfl, Nat.le_of_ble_eq_true rfl, Nat.le_of_ble_eq_true rfl⟩ hG hP hD hS hA [1, 2, 3, 4, 5, 6] rfl c_St_Un h_Un (ci := 5) rfl rfl g_Un_0 rfl hl.1 rfl (Nat.le_of_ble_eq_true rfl) dX5_tryExchange_102 ⟨Nat.le_refl _, Nat.le_refl _⟩ (fun H locs hP hD hS => ?_)
            have hP : va_P D vwCl (wSt cy a (sU' st (m_X7_giveTo (m_X7_giveTo (sU st) x1 (4 : Int32)) x2 ((uO (sU st)) x1.toNatClampNeg)))) H := va_P_eq hP r_St_Un
            have hD : va_D A (wSt cy a (sU' st (m_X7_giveTo (m_X7_giveTo (sU st) x1 (4 : Int32)) x2 ((uO (sU st)) x1.toNatClampNeg)))) := va_D_eq hD r_St_Un
            refine lv_aload_n hx hb dX5_tryExchange_105 rfl (lv_at hl 2 rfl) ?_
            refine lv_iload_n hx hb dX5_tryExchange_106 rfl (lv_at hl 1 rfl) ?_
            refine lv_iconst (v := (4 : Int32)) hx hb dX5_tryExchange_107 (by decide) ?_
            refine lv_iload hx hb dX5_tryExchange_108 (lv_at hl 0 rfl) ?_
            refine mvV (A0 := A) (wc := (wSt cy a (sU' st (m_X7_giveTo (m_X7_giveTo (sU st) x1 (4 : Int32)) x2 ((uO (sU st)) x1.toNatClampNeg))))) (As := [.int ((uO (sU st)) x1.toNatClampNeg), .int (4 : Int32), .int (m_X5_priceForCore st x1)]) (rest := []) (c_X5_pay l D cy a (sU' st (m_X7_giveTo (m_X7_giveTo (sU st) x1 (4 : Int32)) x2 ((uO (sU st)) x1.toNatClampNeg))) ((uO (sU st)) x1.toNatClampNeg) (4 : Int32) (m_X5_priceForCore st x1)) hCF gX5_tryExchange_X5_pay rfl hd_X5_pay ⟨rfl, rfl, Nat.le_of_ble_eq_true rfl, Nat.le_of_ble_eq_true rfl⟩ hG hP hD hS hA [0, 1, 2, 3, 4, 5, 6, 7, 8, 9, 10, 11, 12, 13, 14] rfl c_St_St h_St (ci := 3) rfl rfl g_St_0 rfl hl.1 rfl (Nat.le_of_ble_eq_true rfl) dX5_tryExchange_110 ⟨Nat.le_refl _, Nat.le_refl _⟩ (fun H locs hP hD hS => ?_)
            have hP : va_P D vwCl (wSt cy a (m_X5_pay (sU' st (m_X7_giveTo (m_X7_giveTo (sU st) x1 (4 : Int32)) x2 ((uO (sU st)) x1.toNatClampNeg))) ((uO (sU st)) x1.toNatClampNeg) (4 : Int32) (m_X5_priceForCore st x1))) H := va_P_eq hP r_St_St
            have hD : va_D A (wSt cy a (m_X5_pay (sU' st (m_X7_giveTo (m_X7_giveTo (sU st) x1 (4 : Int32)) x2 ((uO (sU st)) x1.toNatClampNeg))) ((uO (sU st)) x1.toNatClampNeg) (4 : Int32) (m_X5_priceForCore st x1))) := va_D_eq hD r_St_St
            refine lv_aload_n hx hb dX5_tryExchange_113 rfl (lv_at hl 2 rfl) ?_
            refine lv_dup hx hb dX5_tryExchange_114 rfl ?_
            refine va_get (D := D) (ci := 3) (v := .int (sX (m_X5_pay (sU' st (m_X7_giveTo (m_X7_giveTo (sU st) x1 (4 : Int32)) x2 ((uO (sU st)) x1.toNatClampNeg))) ((uO (sU st)) x1.toNatClampNeg) (4 : Int32) (m_X5_priceForCore st x1)))) (C := RX5) (T := TX5) (N := 9) hx hb hts in_X5 hown hG.1 hP 0 g_St_0 rfl 7 (by decide) k_10 (fun _ h9 => h9) rfl dX5_tryExchange_115 ?_
            refine lv_iconst (v := (1 : Int32)) hx hb dX5_tryExchange_118 (by decide) ?_
            refine lv_iadd hx hb dX5_tryExchange_119 ?_
            refine va_put (D := D) (ci := 3) (v := .int ((sX (m_X5_pay (sU' st (m_X7_giveTo (m_X7_giveTo (sU st) x1 (4 : Int32)) x2 ((uO (sU st)) x1.toNatClampNeg))) ((uO (sU st)) x1.toNatClampNeg) (4 : Int32) (m_X5_priceForCore st x1))) + (1 : Int32))) (ty := .int) (C := RX5) (T := TX5) (N := 9) hx hb hts in_X5 tyX5 tyX5_ok nmX5 hown hG.1 hP hD hS 0 g_St_0 rfl 7 (by decide) k_10 (fun _ h9 => h9) rfl (by decide +kernel) rfl rfl (Nat.le_of_ble_eq_true rfl) dX5_tryExchange_120 (fun H locs hP hD hS => ?_)
            have hP : va_P D vwCl (wSt cy a (sX' (m_X5_pay (sU' st (m_X7_giveTo (m_X7_giveTo (sU st) x1 (4 : Int32)) x2 ((uO (sU st)) x1.toNatClampNeg))) ((uO (sU st)) x1.toNatClampNeg) (4 : Int32) (m_X5_priceForCore st x1)) ((sX (m_X5_pay (sU' st (m_X7_giveTo (m_X7_giveTo (sU st) x1 (4 : Int32)) x2 ((uO (sU st)) x1.toNatClampNeg))) ((uO (sU st)) x1.toNatClampNeg) (4 : Int32) (m_X5_priceForCore st x1))) + (1 : Int32)))) H := va_P_eq hP s_St_0_7
            have hD : va_D A (wSt cy a (sX' (m_X5_pay (sU' st (m_X7_giveTo (m_X7_giveTo (sU st) x1 (4 : Int32)) x2 ((uO (sU st)) x1.toNatClampNeg))) ((uO (sU st)) x1.toNatClampNeg) (4 : Int32) (m_X5_priceForCore st x1)) ((sX (m_X5_pay (sU' st (m_X7_giveTo (m_X7_giveTo (sU st) x1 (4 : Int32)) x2 ((uO (sU st)) x1.toNatClampNeg))) ((uO (sU st)) x1.toNatClampNeg) (4 : Int32) (m_X5_priceForCore st x1))) + (1 : Int32)))) := va_D_eq hD s_St_0_7
            refine lv_iload hx hb dX5_tryExchange_123 (lv_at hl 0 rfl) ?_
            exact mu_iret hx hb hr hlocks hP hS dX5_tryExchange_125 (by rw [m_X5_tryExchange, if_neg c_1, if_neg c_2, if_neg c_3, if_neg c_4, if_pos c_5]) (by rw [m_X5_tryExchange, if_neg c_1, if_neg c_2, if_neg c_3, if_neg c_4, if_pos c_5])
          · skip
            refine lv_bipush (v := (-3 : Int32)) hx hb dX5_tryExchange_67 (by decide) ?_
            exact mu_iret hx hb hr hlocks hP hS dX5_tryExchange_69 (by rw [m_X5_tryExchange, if_neg c_1, if_neg c_2, if_neg c_3, if_neg c_4, if_neg c_5]) (by rw [m_X5_tryExchange, if_neg c_1, if_neg c_2, if_neg c_3, if_neg c_4, if_neg c_5])
    · skip
      refine lv_iconst (v := (-1 : Int32)) hx hb dX5_tryExchange_22 (by decide) ?_
      exact mu_iret hx hb hr hlocks hP hS dX5_tryExchange_23 (by rw [m_X5_tryExchange, if_neg c_1, if_pos c_2]) (by rw [m_X5_tryExchange, if_neg c_1, if_pos c_2])
def m_X5_tryAdvance (st : StT) (x1 : Int32) (x2 : Int32) (x3 : Int32) : Int32 × StT := if (m_X8_isHolder x1) = (0 : Int32) then ((-1 : Int32), st) else if (m_X7_has (sU st) x2) = (0 : Int32) then ((-1 : Int32), st) else if (m_X8_isTerm x3) = (0 : Int32) then ((-2 : Int32), st) else if x1 = (4 : Int32) then ((-3 : Int32), st) else if (m_X0_hasRoom (sC st) x1) = (0 : Int32) then ((-3 : Int32), st) else if (m_X7_isGoodSpare (sU st) x2) = (0 : Int32) then ((-3 : Int32), st) else ((sT st) + x3, sX' (sC' (sU' st (m_X7_giveTo (sU st) x2 x1)) (m_X0_add (sC st) x1 ((uK (m_X7_giveTo (sU st) x2 x1)) x2.toNatClampNeg) ((sT st) + x3))) ((sX st) + (1 : Int32)))
theorem hd_X5_tryAdvance : yX5_tryAdvance.cls = RX5 ∧ yX5_tryAdvance.cls ≠ "java/lang/invoke/MethodHandle" ∧ yX5_tryAdvance.cls ≠ "java/lang/invoke/VarHandle" ∧ (parseMethodDescriptor yX5_tryAdvance.desc).map (fun d => d.parameters.length) = some 3 := by decide +kernel
set_option maxHeartbeats 8000000 in
set_option maxRecDepth 20000 in
theorem c_X5_tryAdvance (l : Launch) (D : va_G) (cy : Nat → ClassId) (a : Nat → Nat) (st : StT) (x1 : Int32) (x2 : Int32) (x3 : Int32) (hOK : stOK st) : MU l D cy yX5_tryAdvance wsX5_tryAdvance ({ frames := 3, cells := 0, slots := 0, locals := 65 } : Room) (wSt cy a st) (wSt cy a (m_X5_tryAdvance st x1 x2 x3).2) [.ref (a 0), .int x1, .int x2, .int x3] (m_X5_tryAdvance st x1 x2 x3).1 := by
  refine MU.body (by decide) rfl (Nat.le_of_ble_eq_true rfl) ?_
  intro p e s m below meth c hx hb hml hr hts hown hlocks hP hG ls hl A hD hA hS
  have hl : lv_has ls 5 [(0, .ref (a 0)), (1, .int x1), (2, .int x2), (3, .int x3)] := hl
  have hCF : CallFix p m c cX5_tryAdvance 5 s ([.ref (a 0), .int x1, .int x2, .int x3] : List Value).toArray wsX5_tryAdvance RX5 := ⟨hx, hb, hml, hown, hts⟩
  have in_X5 : ∀ w ∈ u_ws RX5 TX5 9, w ∈ wsX5_tryAdvance := fun _ h => List.mem_cons_of_mem _ (List.mem_append_left _ (List.mem_append_left _ (List.mem_append_right _ h)))
  have in_X7 : ∀ w ∈ u_ws RX7 TX7 6, w ∈ wsX5_tryAdvance := fun _ h => List.mem_cons_of_mem _ (List.mem_append_left _ (List.mem_append_right _ h))
  have k_0 := hts (Cond.initialized RX8) (List.mem_of_getElem? (i := 6) rfl)
  have k_1 := hts (Cond.static yX8_isHolder) (List.mem_of_getElem? (i := 5) rfl)
  have k_2 := hts (Cond.fieldLink RX5 12 "SparePool$State" "units" "LSparePool$Units;") (List.mem_of_getElem? (i := 1) rfl)
  have k_3 := hts (Cond.initialized RX7) (List.mem_of_getElem? (i := 9) rfl)
  have k_4 := hts (Cond.instanceMethod yX7_has) (List.mem_of_getElem? (i := 8) rfl)
  have k_5 := hts (Cond.selects RX7 yX7_has yX7_has) (List.mem_of_getElem? (i := 10) rfl)
  have k_6 := hts (Cond.static yX8_isTerm) (List.mem_of_getElem? (i := 13) rfl)
  have k_7 := hts (Cond.fieldLink RX5 21 "SparePool$State" "cores" "LSparePool$Cores;") (List.mem_of_getElem? (i := 2) rfl)
  have k_8 := hts (Cond.initialized RX0) (List.mem_of_getElem? (i := 16) rfl)
  have k_9 := hts (Cond.instanceMethod yX0_hasRoom) (List.mem_of_getElem? (i := 15) rfl)
  have k_10 := hts (Cond.selects RX0 yX0_hasRoom yX0_hasRoom) (List.mem_of_getElem? (i := 17) rfl)
  have k_11 := hts (Cond.instanceMethod yX7_isGoodSpare) (List.mem_of_getElem? (i := 20) rfl)
  have k_12 := hts (Cond.selects RX7 yX7_isGoodSpare yX7_isGoodSpare) (List.mem_of_getElem? (i := 21) rfl)
  have k_13 := hts (Cond.fieldLink RX5 56 "SparePool$State" "today" "I") (List.mem_of_getElem? (i := 3) rfl)
  have k_14 := hts (Cond.instanceMethod yX7_giveTo) (List.mem_of_getElem? (i := 35) rfl)
  have k_15 := hts (Cond.selects RX7 yX7_giveTo yX7_giveTo) (List.mem_of_getElem? (i := 36) rfl)
  have k_16 := hts (Cond.instanceMethod yX0_add) (List.mem_of_getElem? (i := 39) rfl)
  have k_17 := hts (Cond.selects RX0 yX0_add yX0_add) (List.mem_of_getElem? (i := 40) rfl)
  have k_18 := hts (Cond.fieldLink RX5 62 "SparePool$State" "exchangesSoFar" "I") (List.mem_of_getElem? (i := 4) rfl)
  have hP : va_P D vwCl (wSt cy a st) s.heap := hP
  refine lv_iload_n hx hb dX5_tryAdvance_0 rfl (lv_at hl 1 rfl) ?_
  refine roSN (wc := ([] : va_W)) (As := [.int x1]) (rest := []) (c_X8_isHolder l D cy x1) hCF gX5_tryAdvance_X8_isHolder_n82 (nw_X5_82 hG.2) k_0 k_1 rfl hd_X8_isHolder.2 ⟨rfl, rfl, Nat.le_of_ble_eq_true rfl, Nat.le_of_ble_eq_true rfl⟩ hG va_P_nil rfl hl.1 rfl (Nat.le_of_ble_eq_true rfl) dX5_tryAdvance_1 ⟨Nat.le_refl _, Nat.le_refl _⟩ ?_
  refine lv_if_eq (tgt := 18) hx hb dX5_tryAdvance_4 (by decide) (fun c_1 => ?_) (fun c_1 => ?_)
  · skip
    refine lv_iconst (v := (-1 : Int32)) hx hb dX5_tryAdvance_18 (by decide) ?_
    exact mu_iret hx hb hr hlocks hP hS dX5_tryAdvance_19 (by rw [m_X5_tryAdvance, if_pos c_1]) (by rw [m_X5_tryAdvance, if_pos c_1])
  · skip
    refine lv_aload_n hx hb dX5_tryAdvance_7 rfl (lv_at hl 0 rfl) ?_
    refine va_get (D := D) (ci := 3) (v := .ref (a 1)) (C := RX5) (T := TX5) (N := 9) hx hb hts in_X5 hown hG.1 hP 0 g_St_0 rfl 0 (by decide) k_2 (fun _ h9 => h9) rfl dX5_tryAdvance_8 ?_
    refine lv_iload_n hx hb dX5_tryAdvance_11 rfl (lv_at hl 2 rfl) ?_
    refine roVN (wc := (wUn cy (a 1) (a 2) (a 3) (a 4) (a 5) (a 6) (sU st))) (As := [.int x2]) (rest := []) (c_X7_has l D cy (a 1) (a 2) (a 3) (a 4) (a 5) (a 6) (sU st) x2 hOK.1) hCF gX5_tryAdvance_X7_has_n89 (nw_X5_89 hG.2) k_3 k_4 k_5 rfl hd_X7_has ⟨rfl, rfl, Nat.le_of_ble_eq_true rfl, Nat.le_of_ble_eq_true rfl⟩ hG (hP.sub (ws' := (wUn cy (a 1) (a 2) (a 3) (a 4) (a 5) (a 6) (sU st))) [1, 2, 3, 4, 5, 6] u_St_Un) (ci := 5) rfl rfl g_Un_0 rfl hl.1 rfl (Nat.le_of_ble_eq_true rfl) dX5_tryAdvance_12 ⟨Nat.le_refl _, Nat.le_refl _⟩ ?_
    refine lv_if_ne (tgt := 20) hx hb dX5_tryAdvance_15 (by decide) (fun c_2 => ?_) (fun c_2 => ?_)
    · skip
      refine lv_iload_n hx hb dX5_tryAdvance_20 rfl (lv_at hl 3 rfl) ?_
      refine roSN (wc := ([] : va_W)) (As := [.int x3]) (rest := []) (c_X8_isTerm l D cy x3) hCF gX5_tryAdvance_X8_isTerm_n92 (nw_X5_92 hG.2) k_0 k_6 rfl hd_X8_isTerm.2 ⟨rfl, rfl, Nat.le_of_ble_eq_true rfl, Nat.le_of_ble_eq_true rfl⟩ hG va_P_nil rfl hl.1 rfl (Nat.le_of_ble_eq_true rfl) dX5_tryAdvance_21 ⟨Nat.le_refl _, Nat.le_refl _⟩ ?_
      refine lv_if_ne (tgt := 30) hx hb dX5_tryAdvance_24 (by decide) (fun c_3 => ?_) (fun c_3 => ?_)
      · skip
        refine lv_iload_n hx hb dX5_tryAdvance_30 rfl (lv_at hl 1 rfl) ?_
        refine lv_iconst (v := (4 : Int32)) hx hb dX5_tryAdvance_31 (by decide) ?_
        refine lv_icmp_eq (tgt := 57) hx hb dX5_tryAdvance_32 (by decide) (fun c_4 => ?_) (fun c_4 => ?_)
        · skip
          refine lv_bipush (v := (-3 : Int32)) hx hb dX5_tryAdvance_57 (by decide) ?_
          exact mu_iret hx hb hr hlocks hP hS dX5_tryAdvance_59 (by rw [m_X5_tryAdvance, if_neg c_1, if_neg c_2, if_neg c_3, if_pos c_4]) (by rw [m_X5_tryAdvance, if_neg c_1, if_neg c_2, if_neg c_3, if_pos c_4])
        · skip
          refine lv_aload_n hx hb dX5_tryAdvance_35 rfl (lv_at hl 0 rfl) ?_
          refine va_get (D := D) (ci := 3) (v := .ref (a 7)) (C := RX5) (T := TX5) (N := 9) hx hb hts in_X5 hown hG.1 hP 0 g_St_0 rfl 1 (by decide) k_7 (fun _ h9 => h9) rfl dX5_tryAdvance_36 ?_
          refine lv_iload_n hx hb dX5_tryAdvance_39 rfl (lv_at hl 1 rfl) ?_
          refine roVN (wc := (wCo cy (a 7) (a 8) (a 9) (a 10) (sC st))) (As := [.int x1]) (rest := []) (c_X0_hasRoom l D cy (a 7) (a 8) (a 9) (a 10) (sC st) x1 hOK.2) hCF gX5_tryAdvance_X0_hasRoom_n132 (nw_X5_132 hG.2) k_8 k_9 k_10 rfl hd_X0_hasRoom ⟨rfl, rfl, Nat.le_of_ble_eq_true rfl, Nat.le_of_ble_eq_true rfl⟩ hG (hP.sub (ws' := (wCo cy (a 7) (a 8) (a 9) (a 10) (sC st))) [7, 8, 9, 10] u_St_Co) (ci := 0) rfl rfl g_Co_0 rfl hl.1 rfl (Nat.le_of_ble_eq_true rfl) dX5_tryAdvance_40 ⟨Nat.le_refl _, Nat.le_refl _⟩ ?_
          refine lv_if_eq (tgt := 57) hx hb dX5_tryAdvance_43 (by decide) (fun c_5 => ?_) (fun c_5 => ?_)
          · skip
            refine lv_bipush (v := (-3 : Int32)) hx hb dX5_tryAdvance_57 (by decide) ?_
            exact mu_iret hx hb hr hlocks hP hS dX5_tryAdvance_59 (by rw [m_X5_tryAdvance, if_neg c_1, if_neg c_2, if_neg c_3, if_neg c_4, if_pos c_5]) (by rw [m_X5_tryAdvance, if_neg c_1, if_neg c_2, if_neg c_3, if_neg c_4, if_pos c_5])
          · skip
            refine lv_aload_n hx hb dX5_tryAdvance_46 rfl (lv_at hl 0 rfl) ?_
            refine va_get (D := D) (ci := 3) (v := .ref (a 1)) (C := RX5) (T := TX5) (N := 9) hx hb hts in_X5 hown hG.1 hP 0 g_St_0 rfl 0 (by decide) k_2 (fun _ h9 => h9) rfl dX5_tryAdvance_47 ?_
            refine lv_iload_n hx hb dX5_tryAdvance_50 rfl (lv_at hl 2 rfl) ?_
            refine roVN (wc := (wUn cy (a 1) (a 2) (a 3) (a 4) (a 5) (a 6) (sU st))) (As := [.int x2]) (rest := []) (c_X7_isGoodSpare l D cy (a 1) (a 2) (a 3) (a 4) (a 5) (a 6) (sU st) x2 hOK.1) hCF gX5_tryAdvance_X7_isGoodSpare_n122 (nw_X5_122 hG.2) k_3 k_11 k_12 rfl hd_X7_isGoodSpare ⟨rfl, rfl, Nat.le_of_ble_eq_true rfl, Nat.le_of_ble_eq_true rfl⟩ hG (hP.sub (ws' := (wUn cy (a 1) (a 2) (a 3) (a 4) (a 5) (a 6) (sU st))) [1, 2, 3, 4, 5, 6] u_St_Un) (ci := 5) rfl rfl g_Un_0 rfl hl.1 rfl (Nat.le_of_ble_eq_true rfl) dX5_tryAdvance_51 ⟨Nat.le_refl _, Nat.le_refl _⟩ ?_
            refine lv_if_ne (tgt := 60) hx hb dX5_tryAdvance_54 (by decide) (fun c_6 => ?_) (fun c_6 => ?_)
            · skip
              refine lv_aload_n hx hb dX5_tryAdvance_60 rfl (lv_at hl 0 rfl) ?_
              refine va_get (D := D) (ci := 3) (v := .int (sT st)) (C := RX5) (T := TX5) (N := 9) hx hb hts in_X5 hown hG.1 hP 0 g_St_0 rfl 5 (by decide) k_13 (fun _ h9 => h9) rfl dX5_tryAdvance_61 ?_
              refine lv_iload_n hx hb dX5_tryAdvance_64 rfl (lv_at hl 3 rfl) ?_
              refine lv_iadd hx hb dX5_tryAdvance_65 ?_
              refine lv_istore (lv' := [(4, .int ((sT st) + x3)), (0, .ref (a 0)), (1, .int x1), (2, .int x2), (3, .int x3)]) hx hb dX5_tryAdvance_66 hl (by decide) rfl (fun ls hl => ?_)
              refine lv_aload_n hx hb dX5_tryAdvance_68 rfl (lv_at hl 1 rfl) ?_
              refine va_get (D := D) (ci := 3) (v := .ref (a 1)) (C := RX5) (T := TX5) (N := 9) hx hb hts in_X5 hown hG.1 hP 0 g_St_0 rfl 0 (by decide) k_2 (fun _ h9 => h9) rfl dX5_tryAdvance_69 ?_
              refine lv_iload_n hx hb dX5_tryAdvance_72 rfl (lv_at hl 3 rfl) ?_
              refine lv_iload_n hx hb dX5_tryAdvance_73 rfl (lv_at hl 2 rfl) ?_
              refine mvVN (A0 := A) (wc := (wUn cy (a 1) (a 2) (a 3) (a 4) (a 5) (a 6) (sU st))) (As := [.int x2, .int x1]) (rest := []) (c_X7_giveTo l D cy (a 1) (a 2) (a 3) (a 4) (a 5) (a 6) (sU st) x2 x1 hOK.1) hCF gX5_tryAdvance_X7_giveTo_n115 (nw_X5_115 hG.2) k_3 k_14 k_15 rfl hd_X7_giveTo ⟨rfl, rfl, Nat.le_of_ble_eq_true rfl, Nat.le_of_ble_eq_true rfl⟩ hG hP hD hS hA [1, 2, 3, 4, 5, 6] rfl c_St_Un h_Un (ci := 5) rfl rfl g_Un_0 rfl hl.1 rfl (Nat.le_of_ble_eq_true rfl) dX5_tryAdvance_74 ⟨Nat.le_refl _, Nat.le_refl _⟩ (fun H locs hP hD hS => ?_)
              have hP : va_P D vwCl (wSt cy a (sU' st (m_X7_giveTo (sU st) x2 x1))) H := va_P_eq hP r_St_Un
              have hD : va_D A (wSt cy a (sU' st (m_X7_giveTo (sU st) x2 x1))) := va_D_eq hD r_St_Un
              refine lv_aload_n hx hb dX5_tryAdvance_77 rfl (lv_at hl 1 rfl) ?_
              refine va_get (D := D) (ci := 3) (v := .ref (a 7)) (C := RX5) (T := TX5) (N := 9) hx hb hts in_X5 hown hG.1 hP 0 g_St_0 rfl 1 (by decide) k_7 (fun _ h9 => h9) rfl dX5_tryAdvance_78 ?_
              refine lv_iload_n hx hb dX5_tryAdvance_81 rfl (lv_at hl 2 rfl) ?_
              refine lv_aload_n hx hb dX5_tryAdvance_82 rfl (lv_at hl 1 rfl) ?_
              refine va_get (D := D) (ci := 3) (v := .ref (a 1)) (C := RX5) (T := TX5) (N := 9) hx hb hts in_X5 hown hG.1 hP 0 g_St_0 rfl 0 (by decide) k_2 (fun _ h9 => h9) rfl dX5_tryAdvance_83 ?_
              refine va_getN (D := D) (ci := 5) (v := .ref (a 2)) (C := RX7) (T := TX7) (N := 6) hx hb hts in_X7 hown hG.1 hP 1 g_St_1 rfl 0 (by decide) (va_Nw.use rfl (nw_X5_125 hG.2)) (fun _ h9 => h9) rfl dX5_tryAdvance_86 ?_
              refine lv_iload_n hx hb dX5_tryAdvance_89 rfl (lv_at hl 3 rfl) ?_
              refine va_iald hx hb hG.1 hP 2 0 (n := 16) (f := (uK (m_X7_giveTo (sU st) x2 x1))) g_St_2 rfl (bd_has hOK.1 c_2) dX5_tryAdvance_90 ?_
              refine lv_iload hx hb dX5_tryAdvance_91 (lv_at hl 0 rfl) ?_
              refine mvVN (A0 := A) (wc := (wCo cy (a 7) (a 8) (a 9) (a 10) (sC st))) (As := [.int x1, .int ((uK (m_X7_giveTo (sU st) x2 x1)) x2.toNatClampNeg), .int ((sT st) + x3)]) (rest := []) (c_X0_add l D cy (a 7) (a 8) (a 9) (a 10) (sC st) x1 ((uK (m_X7_giveTo (sU st) x2 x1)) x2.toNatClampNeg) ((sT st) + x3) hOK.2) hCF gX5_tryAdvance_X0_add_n135 (nw_X5_135 hG.2) k_8 k_16 k_17 rfl hd_X0_add ⟨rfl, rfl, Nat.le_of_ble_eq_true rfl, Nat.le_of_ble_eq_true rfl⟩ hG hP hD hS hA [7, 8, 9, 10] rfl c_St_Co h_Co (ci := 0) rfl rfl g_Co_0 rfl hl.1 rfl (Nat.le_of_ble_eq_true rfl) dX5_tryAdvance_93 ⟨Nat.le_refl _, Nat.le_refl _⟩ (fun H locs hP hD hS => ?_)
              have hP : va_P D vwCl (wSt cy a (sC' (sU' st (m_X7_giveTo (sU st) x2 x1)) (m_X0_add (sC st) x1 ((uK (m_X7_giveTo (sU st) x2 x1)) x2.toNatClampNeg) ((sT st) + x3)))) H := va_P_eq hP r_St_Co
              have hD : va_D A (wSt cy a (sC' (sU' st (m_X7_giveTo (sU st) x2 x1)) (m_X0_add (sC st) x1 ((uK (m_X7_giveTo (sU st) x2 x1)) x2.toNatClampNeg) ((sT st) + x3)))) := va_D_eq hD r_St_Co
              refine lv_aload_n hx hb dX5_tryAdvance_96 rfl (lv_at hl 1 rfl) ?_
              refine lv_dup hx hb dX5_tryAdvance_97 rfl ?_
              refine va_get (D := D) (ci := 3) (v := .int (sX st)) (C := RX5) (T := TX5) (N := 9) hx hb hts in_X5 hown hG.1 hP 0 g_St_0 rfl 7 (by decide) k_18 (fun _ h9 => h9) rfl dX5_tryAdvance_98 ?_
              refine lv_iconst (v := (1 : Int32)) hx hb dX5_tryAdvance_101 (by decide) ?_
              refine lv_iadd hx hb dX5_tryAdvance_102 ?_
              refine va_put (D := D) (ci := 3) (v := .int ((sX st) + (1 : Int32))) (ty := .int) (C := RX5) (T := TX5) (N := 9) hx hb hts in_X5 tyX5 tyX5_ok nmX5 hown hG.1 hP hD hS 0 g_St_0 rfl 7 (by decide) k_18 (fun _ h9 => h9) rfl (by decide +kernel) rfl rfl (Nat.le_of_ble_eq_true rfl) dX5_tryAdvance_103 (fun H locs hP hD hS => ?_)
              have hP : va_P D vwCl (wSt cy a (sX' (sC' (sU' st (m_X7_giveTo (sU st) x2 x1)) (m_X0_add (sC st) x1 ((uK (m_X7_giveTo (sU st) x2 x1)) x2.toNatClampNeg) ((sT st) + x3))) ((sX st) + (1 : Int32)))) H := va_P_eq hP s_St_0_7
              have hD : va_D A (wSt cy a (sX' (sC' (sU' st (m_X7_giveTo (sU st) x2 x1)) (m_X0_add (sC st) x1 ((uK (m_X7_giveTo (sU st) x2 x1)) x2.toNatClampNeg) ((sT st) + x3))) ((sX st) + (1 : Int32)))) := va_D_eq hD s_St_0_7
              refine lv_iload hx hb dX5_tryAdvance_106 (lv_at hl 0 rfl) ?_
              exact mu_iret hx hb hr hlocks hP hS dX5_tryAdvance_108 (by rw [m_X5_tryAdvance, if_neg c_1, if_neg c_2, if_neg c_3, if_neg c_4, if_neg c_5, if_neg c_6]) (by rw [m_X5_tryAdvance, if_neg c_1, if_neg c_2, if_neg c_3, if_neg c_4, if_neg c_5, if_neg c_6])
            · skip
              refine lv_bipush (v := (-3 : Int32)) hx hb dX5_tryAdvance_57 (by decide) ?_
              exact mu_iret hx hb hr hlocks hP hS dX5_tryAdvance_59 (by rw [m_X5_tryAdvance, if_neg c_1, if_neg c_2, if_neg c_3, if_neg c_4, if_neg c_5, if_pos c_6]) (by rw [m_X5_tryAdvance, if_neg c_1, if_neg c_2, if_neg c_3, if_neg c_4, if_neg c_5, if_pos c_6])
      · skip
        refine lv_bipush (v := (-2 : Int32)) hx hb dX5_tryAdvance_27 (by decide) ?_
        exact mu_iret hx hb hr hlocks hP hS dX5_tryAdvance_29 (by rw [m_X5_tryAdvance, if_neg c_1, if_neg c_2, if_pos c_3]) (by rw [m_X5_tryAdvance, if_neg c_1, if_neg c_2, if_pos c_3])
    · skip
      refine lv_iconst (v := (-1 : Int32)) hx hb dX5_tryAdvance_18 (by decide) ?_
      exact mu_iret hx hb hr hlocks hP hS dX5_tryAdvance_19 (by rw [m_X5_tryAdvance, if_neg c_1, if_pos c_2]) (by rw [m_X5_tryAdvance, if_neg c_1, if_pos c_2])
