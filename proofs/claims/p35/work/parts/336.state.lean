def m_X5_tryDeliver (st : StT) (x1 : Int32) : Int32 × StT := if (m_X7_has (sU st) x1) = (0 : Int32) then ((-1 : Int32), st) else if (m_X7_isFreeCore (sU st) x1) = (0 : Int32) then ((-3 : Int32), st) else if (m_X0_oldest (sC st) ((uO (sU st)) x1.toNatClampNeg) ((uK (sU st)) x1.toNatClampNeg)) = (-1 : Int32) then ((-3 : Int32), st) else ((m_X5_priceForCore st x1) + (m_X5_lateFees st (m_X0_dueOf (sC st) ((uO (sU st)) x1.toNatClampNeg) (m_X0_oldest (sC st) ((uO (sU st)) x1.toNatClampNeg) ((uK (sU st)) x1.toNatClampNeg))) (sT st)), m_X5_pay (sC' (sU' st (m_X7_giveTo (sU st) x1 (4 : Int32))) (m_X0_remove (sC st) ((uO (sU st)) x1.toNatClampNeg) (m_X0_oldest (sC st) ((uO (sU st)) x1.toNatClampNeg) ((uK (sU st)) x1.toNatClampNeg)))) ((uO (sU st)) x1.toNatClampNeg) (4 : Int32) ((m_X5_priceForCore st x1) + (m_X5_lateFees st (m_X0_dueOf (sC st) ((uO (sU st)) x1.toNatClampNeg) (m_X0_oldest (sC st) ((uO (sU st)) x1.toNatClampNeg) ((uK (sU st)) x1.toNatClampNeg))) (sT st))))
theorem hd_X5_tryDeliver : yX5_tryDeliver.cls = RX5 ∧ yX5_tryDeliver.cls ≠ "java/lang/invoke/MethodHandle" ∧ yX5_tryDeliver.cls ≠ "java/lang/invoke/VarHandle" ∧ (parseMethodDescriptor yX5_tryDeliver.desc).map (fun d => d.parameters.length) = some 1 := by decide +kernel
set_option maxHeartbeats 8000000 in
set_option maxRecDepth 20000 in
theorem c_X5_tryDeliver (l : Launch) (D : va_G) (cy : Nat → ClassId) (a : Nat → Nat) (st : StT) (x1 : Int32) (hOK : stOK st) : MU l D cy yX5_tryDeliver wsX5_tryDeliver ({ frames := 4, cells := 0, slots := 0, locals := 87 } : Room) (wSt cy a st) (wSt cy a (m_X5_tryDeliver st x1).2) [.ref (a 0), .int x1] (m_X5_tryDeliver st x1).1 := by
  refine MU.body (by decide) rfl (Nat.le_of_ble_eq_true rfl) ?_
  intro p e s m below meth c hx hb hml hr hts hown hlocks hP hG ls hl A hD hA hS
  have hl : lv_has ls 5 [(0, .ref (a 0)), (1, .int x1)] := hl
  have hCF : CallFix p m c cX5_tryDeliver 5 s ([.ref (a 0), .int x1] : List Value).toArray wsX5_tryDeliver RX5 := ⟨hx, hb, hml, hown, hts⟩
  have in_X5 : ∀ w ∈ u_ws RX5 TX5 9, w ∈ wsX5_tryDeliver := fun _ h => List.mem_cons_of_mem _ (List.mem_append_left _ (List.mem_append_left _ (List.mem_append_right _ h)))
  have in_X7 : ∀ w ∈ u_ws RX7 TX7 6, w ∈ wsX5_tryDeliver := fun _ h => List.mem_cons_of_mem _ (List.mem_append_left _ (List.mem_append_right _ h))
  have k_0 := hts (Cond.fieldLink RX5 12 "SparePool$State" "units" "LSparePool$Units;") (List.mem_of_getElem? (i := 1) rfl)
  have k_1 := hts (Cond.initialized RX7) (List.mem_of_getElem? (i := 5) rfl)
  have k_2 := hts (Cond.instanceMethod yX7_has) (List.mem_of_getElem? (i := 4) rfl)
  have k_3 := hts (Cond.selects RX7 yX7_has yX7_has) (List.mem_of_getElem? (i := 6) rfl)
  have k_4 := hts (Cond.instanceMethod yX7_isFreeCore) (List.mem_of_getElem? (i := 9) rfl)
  have k_5 := hts (Cond.selects RX7 yX7_isFreeCore yX7_isFreeCore) (List.mem_of_getElem? (i := 10) rfl)
  have k_6 := hts (Cond.fieldLink RX5 21 "SparePool$State" "cores" "LSparePool$Cores;") (List.mem_of_getElem? (i := 2) rfl)
  have k_7 := hts (Cond.initialized RX0) (List.mem_of_getElem? (i := 20) rfl)
  have k_8 := hts (Cond.instanceMethod yX0_oldest) (List.mem_of_getElem? (i := 19) rfl)
  have k_9 := hts (Cond.selects RX0 yX0_oldest yX0_oldest) (List.mem_of_getElem? (i := 21) rfl)
  have k_10 := hts (Cond.instanceMethod yX0_dueOf) (List.mem_of_getElem? (i := 53) rfl)
  have k_11 := hts (Cond.selects RX0 yX0_dueOf yX0_dueOf) (List.mem_of_getElem? (i := 54) rfl)
  have k_12 := hts (Cond.fieldLink RX5 56 "SparePool$State" "today" "I") (List.mem_of_getElem? (i := 3) rfl)
  have k_13 := hts (Cond.instanceMethod yX7_giveTo) (List.mem_of_getElem? (i := 65) rfl)
  have k_14 := hts (Cond.selects RX7 yX7_giveTo yX7_giveTo) (List.mem_of_getElem? (i := 66) rfl)
  have k_15 := hts (Cond.instanceMethod yX0_remove) (List.mem_of_getElem? (i := 69) rfl)
  have k_16 := hts (Cond.selects RX0 yX0_remove yX0_remove) (List.mem_of_getElem? (i := 70) rfl)
  have hP : va_P D vwCl (wSt cy a st) s.heap := hP
  refine lv_aload_n hx hb dX5_tryDeliver_0 rfl (lv_at hl 0 rfl) ?_
  refine va_get (D := D) (ci := 3) (v := .ref (a 1)) (C := RX5) (T := TX5) (N := 9) hx hb hts in_X5 hown hG.1 hP 0 g_St_0 rfl 0 (by decide) k_0 (fun _ h9 => h9) rfl dX5_tryDeliver_1 ?_
  refine lv_iload_n hx hb dX5_tryDeliver_4 rfl (lv_at hl 1 rfl) ?_
  refine roVN (wc := (wUn cy (a 1) (a 2) (a 3) (a 4) (a 5) (a 6) (sU st))) (As := [.int x1]) (rest := []) (c_X7_has l D cy (a 1) (a 2) (a 3) (a 4) (a 5) (a 6) (sU st) x1 hOK.1) hCF gX5_tryDeliver_X7_has_n89 (nw_X5_89 hG.2) k_1 k_2 k_3 rfl hd_X7_has ⟨rfl, rfl, Nat.le_of_ble_eq_true rfl, Nat.le_of_ble_eq_true rfl⟩ hG (hP.sub (ws' := (wUn cy (a 1) (a 2) (a 3) (a 4) (a 5) (a 6) (sU st))) [1, 2, 3, 4, 5, 6] u_St_Un) (ci := 5) rfl rfl g_Un_0 rfl hl.1 rfl (Nat.le_of_ble_eq_true rfl) dX5_tryDeliver_5 ⟨Nat.le_refl _, Nat.le_refl _⟩ ?_
  refine lv_if_ne (tgt := 13) hx hb dX5_tryDeliver_8 (by decide) (fun c_1 => ?_) (fun c_1 => ?_)
  · skip
    refine lv_aload_n hx hb dX5_tryDeliver_13 rfl (lv_at hl 0 rfl) ?_
    refine va_get (D := D) (ci := 3) (v := .ref (a 1)) (C := RX5) (T := TX5) (N := 9) hx hb hts in_X5 hown hG.1 hP 0 g_St_0 rfl 0 (by decide) k_0 (fun _ h9 => h9) rfl dX5_tryDeliver_14 ?_
    refine lv_iload_n hx hb dX5_tryDeliver_17 rfl (lv_at hl 1 rfl) ?_
    refine roVN (wc := (wUn cy (a 1) (a 2) (a 3) (a 4) (a 5) (a 6) (sU st))) (As := [.int x1]) (rest := []) (c_X7_isFreeCore l D cy (a 1) (a 2) (a 3) (a 4) (a 5) (a 6) (sU st) x1 hOK.1) hCF gX5_tryDeliver_X7_isFreeCore_n119 (nw_X5_119 hG.2) k_1 k_4 k_5 rfl hd_X7_isFreeCore ⟨rfl, rfl, Nat.le_of_ble_eq_true rfl, Nat.le_of_ble_eq_true rfl⟩ hG (hP.sub (ws' := (wUn cy (a 1) (a 2) (a 3) (a 4) (a 5) (a 6) (sU st))) [1, 2, 3, 4, 5, 6] u_St_Un) (ci := 5) rfl rfl g_Un_0 rfl hl.1 rfl (Nat.le_of_ble_eq_true rfl) dX5_tryDeliver_18 ⟨Nat.le_refl _, Nat.le_refl _⟩ ?_
    refine lv_if_ne (tgt := 27) hx hb dX5_tryDeliver_21 (by decide) (fun c_2 => ?_) (fun c_2 => ?_)
    · skip
      refine lv_aload_n hx hb dX5_tryDeliver_27 rfl (lv_at hl 0 rfl) ?_
      refine va_get (D := D) (ci := 3) (v := .ref (a 1)) (C := RX5) (T := TX5) (N := 9) hx hb hts in_X5 hown hG.1 hP 0 g_St_0 rfl 0 (by decide) k_0 (fun _ h9 => h9) rfl dX5_tryDeliver_28 ?_
      refine va_getN (D := D) (ci := 5) (v := .ref (a 3)) (C := RX7) (T := TX7) (N := 6) hx hb hts in_X7 hown hG.1 hP 1 g_St_1 rfl 1 (by decide) (va_Nw.use rfl (nw_X5_98 hG.2)) (fun _ h9 => h9) rfl dX5_tryDeliver_31 ?_
      refine lv_iload_n hx hb dX5_tryDeliver_34 rfl (lv_at hl 1 rfl) ?_
      refine va_iald hx hb hG.1 hP 3 0 (n := 16) (f := (uO (sU st))) g_St_3 rfl (bd_has hOK.1 c_1) dX5_tryDeliver_35 ?_
      refine lv_istore_n (lv' := [(2, .int ((uO (sU st)) x1.toNatClampNeg)), (0, .ref (a 0)), (1, .int x1)]) hx hb dX5_tryDeliver_36 rfl hl (by decide) rfl (fun ls hl => ?_)
      refine lv_aload_n hx hb dX5_tryDeliver_37 rfl (lv_at hl 1 rfl) ?_
      refine va_get (D := D) (ci := 3) (v := .ref (a 7)) (C := RX5) (T := TX5) (N := 9) hx hb hts in_X5 hown hG.1 hP 0 g_St_0 rfl 1 (by decide) k_6 (fun _ h9 => h9) rfl dX5_tryDeliver_38 ?_
      refine lv_iload_n hx hb dX5_tryDeliver_41 rfl (lv_at hl 0 rfl) ?_
      refine lv_aload_n hx hb dX5_tryDeliver_42 rfl (lv_at hl 1 rfl) ?_
      refine va_get (D := D) (ci := 3) (v := .ref (a 1)) (C := RX5) (T := TX5) (N := 9) hx hb hts in_X5 hown hG.1 hP 0 g_St_0 rfl 0 (by decide) k_0 (fun _ h9 => h9) rfl dX5_tryDeliver_43 ?_
      refine va_getN (D := D) (ci := 5) (v := .ref (a 2)) (C := RX7) (T := TX7) (N := 6) hx hb hts in_X7 hown hG.1 hP 1 g_St_1 rfl 0 (by decide) (va_Nw.use rfl (nw_X5_125 hG.2)) (fun _ h9 => h9) rfl dX5_tryDeliver_46 ?_
      refine lv_iload_n hx hb dX5_tryDeliver_49 rfl (lv_at hl 2 rfl) ?_
      refine va_iald hx hb hG.1 hP 2 0 (n := 16) (f := (uK (sU st))) g_St_2 rfl (bd_has hOK.1 c_1) dX5_tryDeliver_50 ?_
      refine roVN (wc := (wCo cy (a 7) (a 8) (a 9) (a 10) (sC st))) (As := [.int ((uO (sU st)) x1.toNatClampNeg), .int ((uK (sU st)) x1.toNatClampNeg)]) (rest := []) (c_X0_oldest l D cy (a 7) (a 8) (a 9) (a 10) (sC st) ((uO (sU st)) x1.toNatClampNeg) ((uK (sU st)) x1.toNatClampNeg) hOK.2) hCF gX5_tryDeliver_X0_oldest_n137 (nw_X5_137 hG.2) k_7 k_8 k_9 rfl hd_X0_oldest ⟨rfl, rfl, Nat.le_of_ble_eq_true rfl, Nat.le_of_ble_eq_true rfl⟩ hG (hP.sub (ws' := (wCo cy (a 7) (a 8) (a 9) (a 10) (sC st))) [7, 8, 9, 10] u_St_Co) (ci := 0) rfl rfl g_Co_0 rfl hl.1 rfl (Nat.le_of_ble_eq_true rfl) dX5_tryDeliver_51 ⟨Nat.le_refl _, Nat.le_refl _⟩ ?_
      refine lv_istore_n (lv' := [(3, .int (m_X0_oldest (sC st) ((uO (sU st)) x1.toNatClampNeg) ((uK (sU st)) x1.toNatClampNeg))), (2, .int ((uO (sU st)) x1.toNatClampNeg)), (0, .ref (a 0)), (1, .int x1)]) hx hb dX5_tryDeliver_54 rfl hl (by decide) rfl (fun ls hl => ?_)
      refine lv_iload_n hx hb dX5_tryDeliver_55 rfl (lv_at hl 0 rfl) ?_
      refine lv_iconst (v := (-1 : Int32)) hx hb dX5_tryDeliver_56 (by decide) ?_
      refine lv_icmp_ne (tgt := 63) hx hb dX5_tryDeliver_57 (by decide) (fun c_3 => ?_) (fun c_3 => ?_)
      · skip
        refine lv_aload_n hx hb dX5_tryDeliver_63 rfl (lv_at hl 2 rfl) ?_
        refine lv_iload_n hx hb dX5_tryDeliver_64 rfl (lv_at hl 3 rfl) ?_
        refine roV (wc := (wSt cy a st)) (As := [.int x1]) (rest := []) (c_X5_priceForCore l D cy a st x1 hOK) hCF gX5_tryDeliver_X5_priceForCore rfl hd_X5_priceForCore ⟨rfl, rfl, Nat.le_of_ble_eq_true rfl, Nat.le_of_ble_eq_true rfl⟩ hG hP (ci := 3) rfl rfl g_St_0 rfl hl.1 rfl (Nat.le_of_ble_eq_true rfl) dX5_tryDeliver_65 ⟨Nat.le_refl _, Nat.le_refl _⟩ ?_
        refine lv_aload_n hx hb dX5_tryDeliver_68 rfl (lv_at hl 2 rfl) ?_
        refine lv_aload_n hx hb dX5_tryDeliver_69 rfl (lv_at hl 2 rfl) ?_
        refine va_get (D := D) (ci := 3) (v := .ref (a 7)) (C := RX5) (T := TX5) (N := 9) hx hb hts in_X5 hown hG.1 hP 0 g_St_0 rfl 1 (by decide) k_6 (fun _ h9 => h9) rfl dX5_tryDeliver_70 ?_
        refine lv_iload_n hx hb dX5_tryDeliver_73 rfl (lv_at hl 1 rfl) ?_
        refine lv_iload_n hx hb dX5_tryDeliver_74 rfl (lv_at hl 0 rfl) ?_
        refine roVN (wc := (wCo cy (a 7) (a 8) (a 9) (a 10) (sC st))) (As := [.int ((uO (sU st)) x1.toNatClampNeg), .int (m_X0_oldest (sC st) ((uO (sU st)) x1.toNatClampNeg) ((uK (sU st)) x1.toNatClampNeg))]) (rest := [.ref (a 0), .int (m_X5_priceForCore st x1)]) (c_X0_dueOf l D cy (a 7) (a 8) (a 9) (a 10) (sC st) ((uO (sU st)) x1.toNatClampNeg) (m_X0_oldest (sC st) ((uO (sU st)) x1.toNatClampNeg) ((uK (sU st)) x1.toNatClampNeg)) hOK.2) hCF gX5_tryDeliver_X0_dueOf_n140 (nw_X5_140 hG.2) k_7 k_10 k_11 rfl hd_X0_dueOf ⟨rfl, rfl, Nat.le_of_ble_eq_true rfl, Nat.le_of_ble_eq_true rfl⟩ hG (hP.sub (ws' := (wCo cy (a 7) (a 8) (a 9) (a 10) (sC st))) [7, 8, 9, 10] u_St_Co) (ci := 0) rfl rfl g_Co_0 rfl hl.1 rfl (Nat.le_of_ble_eq_true rfl) dX5_tryDeliver_75 ⟨Nat.le_refl _, Nat.le_refl _⟩ ?_
        refine lv_aload_n hx hb dX5_tryDeliver_78 rfl (lv_at hl 2 rfl) ?_
        refine va_get (D := D) (ci := 3) (v := .int (sT st)) (C := RX5) (T := TX5) (N := 9) hx hb hts in_X5 hown hG.1 hP 0 g_St_0 rfl 5 (by decide) k_12 (fun _ h9 => h9) rfl dX5_tryDeliver_79 ?_
        refine roV (wc := (wSt cy a st)) (As := [.int (m_X0_dueOf (sC st) ((uO (sU st)) x1.toNatClampNeg) (m_X0_oldest (sC st) ((uO (sU st)) x1.toNatClampNeg) ((uK (sU st)) x1.toNatClampNeg))), .int (sT st)]) (rest := [.int (m_X5_priceForCore st x1)]) (c_X5_lateFees l D cy a st (m_X0_dueOf (sC st) ((uO (sU st)) x1.toNatClampNeg) (m_X0_oldest (sC st) ((uO (sU st)) x1.toNatClampNeg) ((uK (sU st)) x1.toNatClampNeg))) (sT st)) hCF gX5_tryDeliver_X5_lateFees rfl hd_X5_lateFees ⟨rfl, rfl, Nat.le_of_ble_eq_true rfl, Nat.le_of_ble_eq_true rfl⟩ hG hP (ci := 3) rfl rfl g_St_0 rfl hl.1 rfl (Nat.le_of_ble_eq_true rfl) dX5_tryDeliver_82 ⟨Nat.le_refl _, Nat.le_refl _⟩ ?_
        refine lv_iadd hx hb dX5_tryDeliver_85 ?_
        refine lv_istore (lv' := [(4, .int ((m_X5_priceForCore st x1) + (m_X5_lateFees st (m_X0_dueOf (sC st) ((uO (sU st)) x1.toNatClampNeg) (m_X0_oldest (sC st) ((uO (sU st)) x1.toNatClampNeg) ((uK (sU st)) x1.toNatClampNeg))) (sT st)))), (3, .int (m_X0_oldest (sC st) ((uO (sU st)) x1.toNatClampNeg) ((uK (sU st)) x1.toNatClampNeg))), (2, .int ((uO (sU st)) x1.toNatClampNeg)), (0, .ref (a 0)), (1, .int x1)]) hx hb dX5_tryDeliver_86 hl (by decide) rfl (fun ls hl => ?_)
        refine lv_aload_n hx hb dX5_tryDeliver_88 rfl (lv_at hl 3 rfl) ?_
        refine va_get (D := D) (ci := 3) (v := .ref (a 1)) (C := RX5) (T := TX5) (N := 9) hx hb hts in_X5 hown hG.1 hP 0 g_St_0 rfl 0 (by decide) k_0 (fun _ h9 => h9) rfl dX5_tryDeliver_89 ?_
        refine lv_iload_n hx hb dX5_tryDeliver_92 rfl (lv_at hl 4 rfl) ?_
        refine lv_iconst (v := (4 : Int32)) hx hb dX5_tryDeliver_93 (by decide) ?_
        refine mvVN (A0 := A) (wc := (wUn cy (a 1) (a 2) (a 3) (a 4) (a 5) (a 6) (sU st))) (As := [.int x1, .int (4 : Int32)]) (rest := []) (c_X7_giveTo l D cy (a 1) (a 2) (a 3) (a 4) (a 5) (a 6) (sU st) x1 (4 : Int32) hOK.1) hCF gX5_tryDeliver_X7_giveTo_n115 (nw_X5_115 hG.2) k_1 k_13 k_14 rfl hd_X7_giveTo ⟨rfl, rfl, Nat.le_of_ble_eq_true rfl, Nat.le_of_ble_eq_true rfl⟩ hG hP hD hS hA [1, 2, 3, 4, 5, 6] rfl c_St_Un h_Un (ci := 5) rfl rfl g_Un_0 rfl hl.1 rfl (Nat.le_of_ble_eq_true rfl) dX5_tryDeliver_94 ⟨Nat.le_refl _, Nat.le_refl _⟩ (fun H locs hP hD hS => ?_)
        have hP : va_P D vwCl (wSt cy a (sU' st (m_X7_giveTo (sU st) x1 (4 : Int32)))) H := va_P_eq hP r_St_Un
        have hD : va_D A (wSt cy a (sU' st (m_X7_giveTo (sU st) x1 (4 : Int32)))) := va_D_eq hD r_St_Un
        refine lv_aload_n hx hb dX5_tryDeliver_97 rfl (lv_at hl 3 rfl) ?_
        refine va_get (D := D) (ci := 3) (v := .ref (a 7)) (C := RX5) (T := TX5) (N := 9) hx hb hts in_X5 hown hG.1 hP 0 g_St_0 rfl 1 (by decide) k_6 (fun _ h9 => h9) rfl dX5_tryDeliver_98 ?_
        refine lv_iload_n hx hb dX5_tryDeliver_101 rfl (lv_at hl 2 rfl) ?_
        refine lv_iload_n hx hb dX5_tryDeliver_102 rfl (lv_at hl 1 rfl) ?_
        refine mvVN (A0 := A) (wc := (wCo cy (a 7) (a 8) (a 9) (a 10) (sC st))) (As := [.int ((uO (sU st)) x1.toNatClampNeg), .int (m_X0_oldest (sC st) ((uO (sU st)) x1.toNatClampNeg) ((uK (sU st)) x1.toNatClampNeg))]) (rest := []) (c_X0_remove l D cy (a 7) (a 8) (a 9) (a 10) (sC st) ((uO (sU st)) x1.toNatClampNeg) (m_X0_oldest (sC st) ((uO (sU st)) x1.toNatClampNeg) ((uK (sU st)) x1.toNatClampNeg)) hOK.2) hCF gX5_tryDeliver_X0_remove_n146 (nw_X5_146 hG.2) k_7 k_15 k_16 rfl hd_X0_remove ⟨rfl, rfl, Nat.le_of_ble_eq_true rfl, Nat.le_of_ble_eq_true rfl⟩ hG hP hD hS hA [7, 8, 9, 10] rfl c_St_Co h_Co (ci := 0) rfl rfl g_Co_0 rfl hl.1 rfl (Nat.le_of_ble_eq_true rfl) dX5_tryDeliver_103 ⟨Nat.le_refl _, Nat.le_refl _⟩ (fun H locs hP hD hS => ?_)
        have hP : va_P D vwCl (wSt cy a (sC' (sU' st (m_X7_giveTo (sU st) x1 (4 : Int32))) (m_X0_remove (sC st) ((uO (sU st)) x1.toNatClampNeg) (m_X0_oldest (sC st) ((uO (sU st)) x1.toNatClampNeg) ((uK (sU st)) x1.toNatClampNeg))))) H := va_P_eq hP r_St_Co
        have hD : va_D A (wSt cy a (sC' (sU' st (m_X7_giveTo (sU st) x1 (4 : Int32))) (m_X0_remove (sC st) ((uO (sU st)) x1.toNatClampNeg) (m_X0_oldest (sC st) ((uO (sU st)) x1.toNatClampNeg) ((uK (sU st)) x1.toNatClampNeg))))) := va_D_eq hD r_St_Co
        refine lv_aload_n hx hb dX5_tryDeliver_106 rfl (lv_at hl 3 rfl) ?_
        refine lv_iload_n hx hb dX5_tryDeliver_107 rfl (lv_at hl 2 rfl) ?_
        refine lv_iconst (v := (4 : Int32)) hx hb dX5_tryDeliver_108 (by decide) ?_
        refine lv_iload hx hb dX5_tryDeliver_109 (lv_at hl 0 rfl) ?_
        refine mvV (A0 := A) (wc := (wSt cy a (sC' (sU' st (m_X7_giveTo (sU st) x1 (4 : Int32))) (m_X0_remove (sC st) ((uO (sU st)) x1.toNatClampNeg) (m_X0_oldest (sC st) ((uO (sU st)) x1.toNatClampNeg) ((uK (sU st)) x1.toNatClampNeg)))))) (As := [.int ((uO (sU st)) x1.toNatClampNeg), .int (4 : Int32), .int ((m_X5_priceForCore st x1) + (m_X5_lateFees st (m_X0_dueOf (sC st) ((uO (sU st)) x1.toNatClampNeg) (m_X0_oldest (sC st) ((uO (sU st)) x1.toNatClampNeg) ((uK (sU st)) x1.toNatClampNeg))) (sT st)))]) (rest := []) (c_X5_pay l D cy a (sC' (sU' st (m_X7_giveTo (sU st) x1 (4 : Int32))) (m_X0_remove (sC st) ((uO (sU st)) x1.toNatClampNeg) (m_X0_oldest (sC st) ((uO (sU st)) x1.toNatClampNeg) ((uK (sU st)) x1.toNatClampNeg)))) ((uO (sU st)) x1.toNatClampNeg) (4 : Int32) ((m_X5_priceForCore st x1) + (m_X5_lateFees st (m_X0_dueOf (sC st) ((uO (sU st)) x1.toNatClampNeg) (m_X0_oldest (sC st) ((uO (sU st)) x1.toNatClampNeg) ((uK (sU st)) x1.toNatClampNeg))) (sT st)))) hCF gX5_tryDeliver_X5_pay rfl hd_X5_pay ⟨rfl, rfl, Nat.le_of_ble_eq_true rfl, Nat.le_of_ble_eq_true rfl⟩ hG hP hD hS hA [0, 1, 2, 3, 4, 5, 6, 7, 8, 9, 10, 11, 12, 13, 14] rfl c_St_St h_St (ci := 3) rfl rfl g_St_0 rfl hl.1 rfl (Nat.le_of_ble_eq_true rfl) dX5_tryDeliver_111 ⟨Nat.le_refl _, Nat.le_refl _⟩ (fun H locs hP hD hS => ?_)
        have hP : va_P D vwCl (wSt cy a (m_X5_pay (sC' (sU' st (m_X7_giveTo (sU st) x1 (4 : Int32))) (m_X0_remove (sC st) ((uO (sU st)) x1.toNatClampNeg) (m_X0_oldest (sC st) ((uO (sU st)) x1.toNatClampNeg) ((uK (sU st)) x1.toNatClampNeg)))) ((uO (sU st)) x1.toNatClampNeg) (4 : Int32) ((m_X5_priceForCore st x1) + (m_X5_lateFees st (m_X0_dueOf (sC st) ((uO (sU st)) x1.toNatClampNeg) (m_X0_oldest (sC st) ((uO (sU st)) x1.toNatClampNeg) ((uK (sU st)) x1.toNatClampNeg))) (sT st))))) H := va_P_eq hP r_St_St
        have hD : va_D A (wSt cy a (m_X5_pay (sC' (sU' st (m_X7_giveTo (sU st) x1 (4 : Int32))) (m_X0_remove (sC st) ((uO (sU st)) x1.toNatClampNeg) (m_X0_oldest (sC st) ((uO (sU st)) x1.toNatClampNeg) ((uK (sU st)) x1.toNatClampNeg)))) ((uO (sU st)) x1.toNatClampNeg) (4 : Int32) ((m_X5_priceForCore st x1) + (m_X5_lateFees st (m_X0_dueOf (sC st) ((uO (sU st)) x1.toNatClampNeg) (m_X0_oldest (sC st) ((uO (sU st)) x1.toNatClampNeg) ((uK (sU st)) x1.toNatClampNeg))) (sT st))))) := va_D_eq hD r_St_St
        refine lv_iload hx hb dX5_tryDeliver_114 (lv_at hl 0 rfl) ?_
        exact mu_iret hx hb hr hlocks hP hS dX5_tryDeliver_116 (by rw [m_X5_tryDeliver, if_neg c_1, if_neg c_2, if_neg c_3]) (by rw [m_X5_tryDeliver, if_neg c_1, if_neg c_2, if_neg c_3])
      · skip
        refine lv_bipush (v := (-3 : Int32)) hx hb dX5_tryDeliver_60 (by decide) ?_
        exact mu_iret hx hb hr hlocks hP hS dX5_tryDeliver_62 (by rw [m_X5_tryDeliver, if_neg c_1, if_neg c_2, if_pos c_3]) (by rw [m_X5_tryDeliver, if_neg c_1, if_neg c_2, if_pos c_3])
    · skip
      refine lv_bipush (v := (-3 : Int32)) hx hb dX5_tryDeliver_24 (by decide) ?_
      exact mu_iret hx hb hr hlocks hP hS dX5_tryDeliver_26 (by rw [m_X5_tryDeliver, if_neg c_1, if_pos c_2]) (by rw [m_X5_tryDeliver, if_neg c_1, if_pos c_2])
  · skip
    refine lv_iconst (v := (-1 : Int32)) hx hb dX5_tryDeliver_11 (by decide) ?_
    exact mu_iret hx hb hr hlocks hP hS dX5_tryDeliver_12 (by rw [m_X5_tryDeliver, if_pos c_1]) (by rw [m_X5_tryDeliver, if_pos c_1])
def m_X5_tryTake (st : StT) (x1 : Int32) (x2 : Int32) (x3 : Int32) : Int32 × StT := if (m_X7_has (sU st) x1) = (0 : Int32) then ((-1 : Int32), st) else if (m_X7_has (sU st) x2) = (0 : Int32) then ((-1 : Int32), st) else if (m_X8_isPart x3) = (0 : Int32) then ((-1 : Int32), st) else if (m_X7_isOfKindAt (sU st) x1 ((uK (sU st)) x2.toNatClampNeg) ((uP (sU st)) x2.toNatClampNeg)) = (0 : Int32) then ((-3 : Int32), st) else if (m_X7_hasPart (sU st) x1 x3) = (0 : Int32) then ((-3 : Int32), st) else if (m_X7_hasPart (sU st) x2 x3) = (0 : Int32) then (m_X1_between (m_X1_addOne (sD st) ((uO (sU st)) x2.toNatClampNeg) ((uO (sU st)) x1.toNatClampNeg) ((uK (sU st)) x2.toNatClampNeg) x3) ((uO (sU st)) x2.toNatClampNeg) ((uO (sU st)) x1.toNatClampNeg) ((uK (sU st)) x2.toNatClampNeg) x3, sD' (sK' (sU' st (uQ' (sU st) (upd (upd (uQ (sU st)) x1.toNatClampNeg (((uQ (sU st)) x1.toNatClampNeg) &&& (((1 : Int32) <<< (x3 &&& (31 : Int32))) ^^^ (-1 : Int32)))) x2.toNatClampNeg (((upd (uQ (sU st)) x1.toNatClampNeg (((uQ (sU st)) x1.toNatClampNeg) &&& (((1 : Int32) <<< (x3 &&& (31 : Int32))) ^^^ (-1 : Int32)))) x2.toNatClampNeg) ||| ((1 : Int32) <<< (x3 &&& (31 : Int32))))))) ((sK st) + (1 : Int32))) (m_X1_addOne (sD st) ((uO (sU st)) x2.toNatClampNeg) ((uO (sU st)) x1.toNatClampNeg) ((uK (sU st)) x2.toNatClampNeg) x3)) else ((-3 : Int32), st)
theorem hd_X5_tryTake : yX5_tryTake.cls = RX5 ∧ yX5_tryTake.cls ≠ "java/lang/invoke/MethodHandle" ∧ yX5_tryTake.cls ≠ "java/lang/invoke/VarHandle" ∧ (parseMethodDescriptor yX5_tryTake.desc).map (fun d => d.parameters.length) = some 3 := by decide +kernel
set_option maxHeartbeats 8000000 in
set_option maxRecDepth 20000 in
theorem c_X5_tryTake (l : Launch) (D : va_G) (cy : Nat → ClassId) (a : Nat → Nat) (st : StT) (x1 : Int32) (x2 : Int32) (x3 : Int32) (hOK : stOK st) : MU l D cy yX5_tryTake wsX5_tryTake ({ frames := 3, cells := 0, slots := 0, locals := 69 } : Room) (wSt cy a st) (wSt cy a (m_X5_tryTake st x1 x2 x3).2) [.ref (a 0), .int x1, .int x2, .int x3] (m_X5_tryTake st x1 x2 x3).1 := by
  refine MU.body (by decide) rfl (Nat.le_of_ble_eq_true rfl) ?_
  intro p e s m below meth c hx hb hml hr hts hown hlocks hP hG ls hl A hD hA hS
  have hl : lv_has ls 7 [(0, .ref (a 0)), (1, .int x1), (2, .int x2), (3, .int x3)] := hl
  have hCF : CallFix p m c cX5_tryTake 7 s ([.ref (a 0), .int x1, .int x2, .int x3] : List Value).toArray wsX5_tryTake RX5 := ⟨hx, hb, hml, hown, hts⟩
  have in_X5 : ∀ w ∈ u_ws RX5 TX5 9, w ∈ wsX5_tryTake := fun _ h => List.mem_cons_of_mem _ (List.mem_append_left _ (List.mem_append_left _ (List.mem_append_right _ h)))
  have in_X7 : ∀ w ∈ u_ws RX7 TX7 6, w ∈ wsX5_tryTake := fun _ h => List.mem_cons_of_mem _ (List.mem_append_left _ (List.mem_append_right _ h))
  have k_0 := hts (Cond.fieldLink RX5 12 "SparePool$State" "units" "LSparePool$Units;") (List.mem_of_getElem? (i := 1) rfl)
  have k_1 := hts (Cond.initialized RX7) (List.mem_of_getElem? (i := 5) rfl)
  have k_2 := hts (Cond.instanceMethod yX7_has) (List.mem_of_getElem? (i := 4) rfl)
  have k_3 := hts (Cond.selects RX7 yX7_has yX7_has) (List.mem_of_getElem? (i := 6) rfl)
  have k_4 := hts (Cond.initialized RX8) (List.mem_of_getElem? (i := 10) rfl)
  have k_5 := hts (Cond.static yX8_isPart) (List.mem_of_getElem? (i := 9) rfl)
  have k_6 := hts (Cond.instanceMethod yX7_isOfKindAt) (List.mem_of_getElem? (i := 12) rfl)
  have k_7 := hts (Cond.selects RX7 yX7_isOfKindAt yX7_isOfKindAt) (List.mem_of_getElem? (i := 13) rfl)
  have k_8 := hts (Cond.instanceMethod yX7_hasPart) (List.mem_of_getElem? (i := 18) rfl)
  have k_9 := hts (Cond.selects RX7 yX7_hasPart yX7_hasPart) (List.mem_of_getElem? (i := 19) rfl)
  have k_10 := hts (Cond.fieldLink RX5 59 "SparePool$State" "takenSoFar" "I") (List.mem_of_getElem? (i := 2) rfl)
  have k_11 := hts (Cond.fieldLink RX5 28 "SparePool$State" "debts" "LSparePool$Debts;") (List.mem_of_getElem? (i := 3) rfl)
  have k_12 := hts (Cond.initialized RX1) (List.mem_of_getElem? (i := 23) rfl)
  have k_13 := hts (Cond.instanceMethod yX1_addOne) (List.mem_of_getElem? (i := 22) rfl)
  have k_14 := hts (Cond.selects RX1 yX1_addOne yX1_addOne) (List.mem_of_getElem? (i := 24) rfl)
  have k_15 := hts (Cond.instanceMethod yX1_between) (List.mem_of_getElem? (i := 34) rfl)
  have k_16 := hts (Cond.selects RX1 yX1_between yX1_between) (List.mem_of_getElem? (i := 35) rfl)
  have hP : va_P D vwCl (wSt cy a st) s.heap := hP
  refine lv_aload_n hx hb dX5_tryTake_0 rfl (lv_at hl 0 rfl) ?_
  refine va_get (D := D) (ci := 3) (v := .ref (a 1)) (C := RX5) (T := TX5) (N := 9) hx hb hts in_X5 hown hG.1 hP 0 g_St_0 rfl 0 (by decide) k_0 (fun _ h9 => h9) rfl dX5_tryTake_1 ?_
  refine lv_iload_n hx hb dX5_tryTake_4 rfl (lv_at hl 1 rfl) ?_
  refine roVN (wc := (wUn cy (a 1) (a 2) (a 3) (a 4) (a 5) (a 6) (sU st))) (As := [.int x1]) (rest := []) (c_X7_has l D cy (a 1) (a 2) (a 3) (a 4) (a 5) (a 6) (sU st) x1 hOK.1) hCF gX5_tryTake_X7_has_n89 (nw_X5_89 hG.2) k_1 k_2 k_3 rfl hd_X7_has ⟨rfl, rfl, Nat.le_of_ble_eq_true rfl, Nat.le_of_ble_eq_true rfl⟩ hG (hP.sub (ws' := (wUn cy (a 1) (a 2) (a 3) (a 4) (a 5) (a 6) (sU st))) [1, 2, 3, 4, 5, 6] u_St_Un) (ci := 5) rfl rfl g_Un_0 rfl hl.1 rfl (Nat.le_of_ble_eq_true rfl) dX5_tryTake_5 ⟨Nat.le_refl _, Nat.le_refl _⟩ ?_
  refine lv_if_eq (tgt := 29) hx hb dX5_tryTake_8 (by decide) (fun c_1 => ?_) (fun c_1 => ?_)
  · skip
    refine lv_iconst (v := (-1 : Int32)) hx hb dX5_tryTake_29 (by decide) ?_
    exact mu_iret hx hb hr hlocks hP hS dX5_tryTake_30 (by rw [m_X5_tryTake, if_pos c_1]) (by rw [m_X5_tryTake, if_pos c_1])
  · skip
    refine lv_aload_n hx hb dX5_tryTake_11 rfl (lv_at hl 0 rfl) ?_
    refine va_get (D := D) (ci := 3) (v := .ref (a 1)) (C := RX5) (T := TX5) (N := 9) hx hb hts in_X5 hown hG.1 hP 0 g_St_0 rfl 0 (by decide) k_0 (fun _ h9 => h9) rfl dX5_tryTake_12 ?_
    refine lv_iload_n hx hb dX5_tryTake_15 rfl (lv_at hl 2 rfl) ?_
    refine roVN (wc := (wUn cy (a 1) (a 2) (a 3) (a 4) (a 5) (a 6) (sU st))) (As := [.int x2]) (rest := []) (c_X7_has l D cy (a 1) (a 2) (a 3) (a 4) (a 5) (a 6) (sU st) x2 hOK.1) hCF gX5_tryTake_X7_has_n89 (nw_X5_89 hG.2) k_1 k_2 k_3 rfl hd_X7_has ⟨rfl, rfl, Nat.le_of_ble_eq_true rfl, Nat.le_of_ble_eq_true rfl⟩ hG (hP.sub (ws' := (wUn cy (a 1) (a 2) (a 3) (a 4) (a 5) (a 6) (sU st))) [1, 2, 3, 4, 5, 6] u_St_Un) (ci := 5) rfl rfl g_Un_0 rfl hl.1 rfl (Nat.le_of_ble_eq_true rfl) dX5_tryTake_16 ⟨Nat.le_refl _, Nat.le_refl _⟩ ?_
    refine lv_if_eq (tgt := 29) hx hb dX5_tryTake_19 (by decide) (fun c_2 => ?_) (fun c_2 => ?_)
    · skip
      refine lv_iconst (v := (-1 : Int32)) hx hb dX5_tryTake_29 (by decide) ?_
      exact mu_iret hx hb hr hlocks hP hS dX5_tryTake_30 (by rw [m_X5_tryTake, if_neg c_1, if_pos c_2]) (by rw [m_X5_tryTake, if_neg c_1, if_pos c_2])
    · skip
      refine lv_iload_n hx hb dX5_tryTake_22 rfl (lv_at hl 3 rfl) ?_
      refine roSN (wc := ([] : va_W)) (As := [.int x3]) (rest := []) (c_X8_isPart l D cy x3) hCF gX5_tryTake_X8_isPart_n149 (nw_X5_149 hG.2) k_4 k_5 rfl hd_X8_isPart.2 ⟨rfl, rfl, Nat.le_of_ble_eq_true rfl, Nat.le_of_ble_eq_true rfl⟩ hG va_P_nil rfl hl.1 rfl (Nat.le_of_ble_eq_true rfl) dX5_tryTake_23 ⟨Nat.le_refl _, Nat.le_refl _⟩ ?_
      refine lv_if_ne (tgt := 31) hx hb dX5_tryTake_26 (by decide) (fun c_3 => ?_) (fun c_3 => ?_)
      · skip
        refine lv_aload_n hx hb dX5_tryTake_31 rfl (lv_at hl 0 rfl) ?_
        refine va_get (D := D) (ci := 3) (v := .ref (a 1)) (C := RX5) (T := TX5) (N := 9) hx hb hts in_X5 hown hG.1 hP 0 g_St_0 rfl 0 (by decide) k_0 (fun _ h9 => h9) rfl dX5_tryTake_32 ?_
        refine lv_iload_n hx hb dX5_tryTake_35 rfl (lv_at hl 1 rfl) ?_
        refine lv_aload_n hx hb dX5_tryTake_36 rfl (lv_at hl 0 rfl) ?_
        refine va_get (D := D) (ci := 3) (v := .ref (a 1)) (C := RX5) (T := TX5) (N := 9) hx hb hts in_X5 hown hG.1 hP 0 g_St_0 rfl 0 (by decide) k_0 (fun _ h9 => h9) rfl dX5_tryTake_37 ?_
        refine va_getN (D := D) (ci := 5) (v := .ref (a 2)) (C := RX7) (T := TX7) (N := 6) hx hb hts in_X7 hown hG.1 hP 1 g_St_1 rfl 0 (by decide) (va_Nw.use rfl (nw_X5_125 hG.2)) (fun _ h9 => h9) rfl dX5_tryTake_40 ?_
        refine lv_iload_n hx hb dX5_tryTake_43 rfl (lv_at hl 2 rfl) ?_
        refine va_iald hx hb hG.1 hP 2 0 (n := 16) (f := (uK (sU st))) g_St_2 rfl (bd_has hOK.1 c_2) dX5_tryTake_44 ?_
        refine lv_aload_n hx hb dX5_tryTake_45 rfl (lv_at hl 0 rfl) ?_
        refine va_get (D := D) (ci := 3) (v := .ref (a 1)) (C := RX5) (T := TX5) (N := 9) hx hb hts in_X5 hown hG.1 hP 0 g_St_0 rfl 0 (by decide) k_0 (fun _ h9 => h9) rfl dX5_tryTake_46 ?_
        refine va_getN (D := D) (ci := 5) (v := .ref (a 4)) (C := RX7) (T := TX7) (N := 6) hx hb hts in_X7 hown hG.1 hP 1 g_St_1 rfl 2 (by decide) (va_Nw.use rfl (nw_X5_101 hG.2)) (fun _ h9 => h9) rfl dX5_tryTake_49 ?_
        refine lv_iload_n hx hb dX5_tryTake_52 rfl (lv_at hl 2 rfl) ?_
        refine va_iald hx hb hG.1 hP 4 0 (n := 16) (f := (uP (sU st))) g_St_4 rfl (bd_has hOK.1 c_2) dX5_tryTake_53 ?_
        refine roVN (wc := (wUn cy (a 1) (a 2) (a 3) (a 4) (a 5) (a 6) (sU st))) (As := [.int x1, .int ((uK (sU st)) x2.toNatClampNeg), .int ((uP (sU st)) x2.toNatClampNeg)]) (rest := []) (c_X7_isOfKindAt l D cy (a 1) (a 2) (a 3) (a 4) (a 5) (a 6) (sU st) x1 ((uK (sU st)) x2.toNatClampNeg) ((uP (sU st)) x2.toNatClampNeg) hOK.1) hCF gX5_tryTake_X7_isOfKindAt_n152 (nw_X5_152 hG.2) k_1 k_6 k_7 rfl hd_X7_isOfKindAt ⟨rfl, rfl, Nat.le_of_ble_eq_true rfl, Nat.le_of_ble_eq_true rfl⟩ hG (hP.sub (ws' := (wUn cy (a 1) (a 2) (a 3) (a 4) (a 5) (a 6) (sU st))) [1, 2, 3, 4, 5, 6] u_St_Un) (ci := 5) rfl rfl g_Un_0 rfl hl.1 rfl (Nat.le_of_ble_eq_true rfl) dX5_tryTake_54 ⟨Nat.le_refl _, Nat.le_refl _⟩ ?_
        refine lv_if_eq (tgt := 84) hx hb dX5_tryTake_57 (by decide) (fun c_4 => ?_) (fun c_4 => ?_)
        · skip
          refine lv_bipush (v := (-3 : Int32)) hx hb dX5_tryTake_84 (by decide) ?_
          exact mu_iret hx hb hr hlocks hP hS dX5_tryTake_86 (by rw [m_X5_tryTake, if_neg c_1, if_neg c_2, if_neg c_3, if_pos c_4]) (by rw [m_X5_tryTake, if_neg c_1, if_neg c_2, if_neg c_3, if_pos c_4])
        · skip
          refine lv_aload_n hx hb dX5_tryTake_60 rfl (lv_at hl 0 rfl) ?_
          refine va_get (D := D) (ci := 3) (v := .ref (a 1)) (C := RX5) (T := TX5) (N := 9) hx hb hts in_X5 hown hG.1 hP 0 g_St_0 rfl 0 (by decide) k_0 (fun _ h9 => h9) rfl dX5_tryTake_61 ?_
          refine lv_iload_n hx hb dX5_tryTake_64 rfl (lv_at hl 1 rfl) ?_
          refine lv_iload_n hx hb dX5_tryTake_65 rfl (lv_at hl 3 rfl) ?_
          refine roVN (wc := (wUn cy (a 1) (a 2) (a 3) (a 4) (a 5) (a 6) (sU st))) (As := [.int x1, .int x3]) (rest := []) (c_X7_hasPart l D cy (a 1) (a 2) (a 3) (a 4) (a 5) (a 6) (sU st) x1 x3 hOK.1) hCF gX5_tryTake_X7_hasPart_n156 (nw_X5_156 hG.2) k_1 k_8 k_9 rfl hd_X7_hasPart ⟨rfl, rfl, Nat.le_of_ble_eq_true rfl, Nat.le_of_ble_eq_true rfl⟩ hG (hP.sub (ws' := (wUn cy (a 1) (a 2) (a 3) (a 4) (a 5) (a 6) (sU st))) [1, 2, 3, 4, 5, 6] u_St_Un) (ci := 5) rfl rfl g_Un_0 rfl hl.1 rfl (Nat.le_of_ble_eq_true rfl) dX5_tryTake_66 ⟨Nat.le_refl _, Nat.le_refl _⟩ ?_
          refine lv_if_eq (tgt := 84) hx hb dX5_tryTake_69 (by decide) (fun c_5 => ?_) (fun c_5 => ?_)
          · skip
            refine lv_bipush (v := (-3 : Int32)) hx hb dX5_tryTake_84 (by decide) ?_
            exact mu_iret hx hb hr hlocks hP hS dX5_tryTake_86 (by rw [m_X5_tryTake, if_neg c_1, if_neg c_2, if_neg c_3, if_neg c_4, if_pos c_5]) (by rw [m_X5_tryTake, if_neg c_1, if_neg c_2, if_neg c_3, if_neg c_4, if_pos c_5])
          · skip
            refine lv_aload_n hx hb dX5_tryTake_72 rfl (lv_at hl 0 rfl) ?_
            refine va_get (D := D) (ci := 3) (v := .ref (a 1)) (C := RX5) (T := TX5) (N := 9) hx hb hts in_X5 hown hG.1 hP 0 g_St_0 rfl 0 (by decide) k_0 (fun _ h9 => h9) rfl dX5_tryTake_73 ?_
            refine lv_iload_n hx hb dX5_tryTake_76 rfl (lv_at hl 2 rfl) ?_
            refine lv_iload_n hx hb dX5_tryTake_77 rfl (lv_at hl 3 rfl) ?_
            refine roVN (wc := (wUn cy (a 1) (a 2) (a 3) (a 4) (a 5) (a 6) (sU st))) (As := [.int x2, .int x3]) (rest := []) (c_X7_hasPart l D cy (a 1) (a 2) (a 3) (a 4) (a 5) (a 6) (sU st) x2 x3 hOK.1) hCF gX5_tryTake_X7_hasPart_n156 (nw_X5_156 hG.2) k_1 k_8 k_9 rfl hd_X7_hasPart ⟨rfl, rfl, Nat.le_of_ble_eq_true rfl, Nat.le_of_ble_eq_true rfl⟩ hG (hP.sub (ws' := (wUn cy (a 1) (a 2) (a 3) (a 4) (a 5) (a 6) (sU st))) [1, 2, 3, 4, 5, 6] u_St_Un) (ci := 5) rfl rfl g_Un_0 rfl hl.1 rfl (Nat.le_of_ble_eq_true rfl) dX5_tryTake_78 ⟨Nat.le_refl _, Nat.le_refl _⟩ ?_
            refine lv_if_eq (tgt := 87) hx hb dX5_tryTake_81 (by decide) (fun c_6 => ?_) (fun c_6 => ?_)
            · skip
              refine lv_aload_n hx hb dX5_tryTake_87 rfl (lv_at hl 0 rfl) ?_
              refine va_get (D := D) (ci := 3) (v := .ref (a 1)) (C := RX5) (T := TX5) (N := 9) hx hb hts in_X5 hown hG.1 hP 0 g_St_0 rfl 0 (by decide) k_0 (fun _ h9 => h9) rfl dX5_tryTake_88 ?_
              refine va_getN (D := D) (ci := 5) (v := .ref (a 2)) (C := RX7) (T := TX7) (N := 6) hx hb hts in_X7 hown hG.1 hP 1 g_St_1 rfl 0 (by decide) (va_Nw.use rfl (nw_X5_125 hG.2)) (fun _ h9 => h9) rfl dX5_tryTake_91 ?_
              refine lv_iload_n hx hb dX5_tryTake_94 rfl (lv_at hl 2 rfl) ?_
              refine va_iald hx hb hG.1 hP 2 0 (n := 16) (f := (uK (sU st))) g_St_2 rfl (bd_has hOK.1 c_2) dX5_tryTake_95 ?_
              refine lv_istore (lv' := [(4, .int ((uK (sU st)) x2.toNatClampNeg)), (0, .ref (a 0)), (1, .int x1), (2, .int x2), (3, .int x3)]) hx hb dX5_tryTake_96 hl (by decide) rfl (fun ls hl => ?_)
              refine lv_aload_n hx hb dX5_tryTake_98 rfl (lv_at hl 1 rfl) ?_
              refine va_get (D := D) (ci := 3) (v := .ref (a 1)) (C := RX5) (T := TX5) (N := 9) hx hb hts in_X5 hown hG.1 hP 0 g_St_0 rfl 0 (by decide) k_0 (fun _ h9 => h9) rfl dX5_tryTake_99 ?_
              refine va_getN (D := D) (ci := 5) (v := .ref (a 3)) (C := RX7) (T := TX7) (N := 6) hx hb hts in_X7 hown hG.1 hP 1 g_St_1 rfl 1 (by decide) (va_Nw.use rfl (nw_X5_98 hG.2)) (fun _ h9 => h9) rfl dX5_tryTake_102 ?_
              refine lv_iload_n hx hb dX5_tryTake_105 rfl (lv_at hl 2 rfl) ?_
              refine va_iald hx hb hG.1 hP 3 0 (n := 16) (f := (uO (sU st))) g_St_3 rfl (bd_has hOK.1 c_1) dX5_tryTake_106 ?_
              refine lv_istore (lv' := [(5, .int ((uO (sU st)) x1.toNatClampNeg)), (4, .int ((uK (sU st)) x2.toNatClampNeg)), (0, .ref (a 0)), (1, .int x1), (2, .int x2), (3, .int x3)]) hx hb dX5_tryTake_107 hl (by decide) rfl (fun ls hl => ?_)
              refine lv_aload_n hx hb dX5_tryTake_109 rfl (lv_at hl 2 rfl) ?_
              refine va_get (D := D) (ci := 3) (v := .ref (a 1)) (C := RX5) (T := TX5) (N := 9) hx hb hts in_X5 hown hG.1 hP 0 g_St_0 rfl 0 (by decide) k_0 (fun _ h9 => h9) rfl dX5_tryTake_110 ?_
              refine va_getN (D := D) (ci := 5) (v := .ref (a 3)) (C := RX7) (T := TX7) (N := 6) hx hb hts in_X7 hown hG.1 hP 1 g_St_1 rfl 1 (by decide) (va_Nw.use rfl (nw_X5_98 hG.2)) (fun _ h9 => h9) rfl dX5_tryTake_113 ?_
              refine lv_iload_n hx hb dX5_tryTake_116 rfl (lv_at hl 4 rfl) ?_
              refine va_iald hx hb hG.1 hP 3 0 (n := 16) (f := (uO (sU st))) g_St_3 rfl (bd_has hOK.1 c_2) dX5_tryTake_117 ?_
              refine lv_istore (lv' := [(6, .int ((uO (sU st)) x2.toNatClampNeg)), (5, .int ((uO (sU st)) x1.toNatClampNeg)), (4, .int ((uK (sU st)) x2.toNatClampNeg)), (0, .ref (a 0)), (1, .int x1), (2, .int x2), (3, .int x3)]) hx hb dX5_tryTake_118 hl (by decide) rfl (fun ls hl => ?_)
              refine lv_aload_n hx hb dX5_tryTake_120 rfl (lv_at hl 3 rfl) ?_
              refine va_get (D := D) (ci := 3) (v := .ref (a 1)) (C := RX5) (T := TX5) (N := 9) hx hb hts in_X5 hown hG.1 hP 0 g_St_0 rfl 0 (by decide) k_0 (fun _ h9 => h9) rfl dX5_tryTake_121 ?_
              refine va_getN (D := D) (ci := 5) (v := .ref (a 5)) (C := RX7) (T := TX7) (N := 6) hx hb hts in_X7 hown hG.1 hP 1 g_St_1 rfl 3 (by decide) (va_Nw.use rfl (nw_X5_160 hG.2)) (fun _ h9 => h9) rfl dX5_tryTake_124 ?_
              refine lv_iload_n hx hb dX5_tryTake_127 rfl (lv_at hl 4 rfl) ?_
              refine lv_dup2_11 hx hb dX5_tryTake_128 rfl rfl ?_
              refine va_iald hx hb hG.1 hP 5 0 (n := 16) (f := (uQ (sU st))) g_St_5 rfl (bd_has hOK.1 c_1) dX5_tryTake_129 ?_
              refine lv_iconst (v := (1 : Int32)) hx hb dX5_tryTake_130 (by decide) ?_
              refine lv_iload_n hx hb dX5_tryTake_131 rfl (lv_at hl 6 rfl) ?_
              refine lv_ishl hx hb dX5_tryTake_132 ?_
              refine lv_iconst (v := (-1 : Int32)) hx hb dX5_tryTake_133 (by decide) ?_
              refine lv_ixor hx hb dX5_tryTake_134 ?_
              refine lv_iand hx hb dX5_tryTake_135 ?_
              refine va_iast hx hb hG.1 hP hD hS 5 0 (n := 16) (f := (uQ (sU st))) g_St_5 rfl (bd_has hOK.1 c_1) dX5_tryTake_136 (fun H locs hP hD hS => ?_)
              have hP : va_P D vwCl (wSt cy a (sU' st (uQ' (sU st) (upd (uQ (sU st)) x1.toNatClampNeg (((uQ (sU st)) x1.toNatClampNeg) &&& (((1 : Int32) <<< (x3 &&& (31 : Int32))) ^^^ (-1 : Int32))))))) H := va_P_eq hP s_St_5
              have hD : va_D A (wSt cy a (sU' st (uQ' (sU st) (upd (uQ (sU st)) x1.toNatClampNeg (((uQ (sU st)) x1.toNatClampNeg) &&& (((1 : Int32) <<< (x3 &&& (31 : Int32))) ^^^ (-1 : Int32))))))) := va_D_eq hD s_St_5
              refine lv_aload_n hx hb dX5_tryTake_137 rfl (lv_at hl 3 rfl) ?_
              refine va_get (D := D) (ci := 3) (v := .ref (a 1)) (C := RX5) (T := TX5) (N := 9) hx hb hts in_X5 hown hG.1 hP 0 g_St_0 rfl 0 (by decide) k_0 (fun _ h9 => h9) rfl dX5_tryTake_138 ?_
              refine va_getN (D := D) (ci := 5) (v := .ref (a 5)) (C := RX7) (T := TX7) (N := 6) hx hb hts in_X7 hown hG.1 hP 1 g_St_1 rfl 3 (by decide) (va_Nw.use rfl (nw_X5_160 hG.2)) (fun _ h9 => h9) rfl dX5_tryTake_141 ?_
              refine lv_iload_n hx hb dX5_tryTake_144 rfl (lv_at hl 5 rfl) ?_
              refine lv_dup2_11 hx hb dX5_tryTake_145 rfl rfl ?_
              refine va_iald hx hb hG.1 hP 5 0 (n := 16) (f := (upd (uQ (sU st)) x1.toNatClampNeg (((uQ (sU st)) x1.toNatClampNeg) &&& (((1 : Int32) <<< (x3 &&& (31 : Int32))) ^^^ (-1 : Int32))))) g_St_5 rfl (bd_has hOK.1 c_2) dX5_tryTake_146 ?_
              refine lv_iconst (v := (1 : Int32)) hx hb dX5_tryTake_147 (by decide) ?_
              refine lv_iload_n hx hb dX5_tryTake_148 rfl (lv_at hl 6 rfl) ?_
              refine lv_ishl hx hb dX5_tryTake_149 ?_
              refine lv_ior hx hb dX5_tryTake_150 ?_
              refine va_iast hx hb hG.1 hP hD hS 5 0 (n := 16) (f := (upd (uQ (sU st)) x1.toNatClampNeg (((uQ (sU st)) x1.toNatClampNeg) &&& (((1 : Int32) <<< (x3 &&& (31 : Int32))) ^^^ (-1 : Int32))))) g_St_5 rfl (bd_has hOK.1 c_2) dX5_tryTake_151 (fun H locs hP hD hS => ?_)
              have hP : va_P D vwCl (wSt cy a (sU' st (uQ' (sU st) (upd (upd (uQ (sU st)) x1.toNatClampNeg (((uQ (sU st)) x1.toNatClampNeg) &&& (((1 : Int32) <<< (x3 &&& (31 : Int32))) ^^^ (-1 : Int32)))) x2.toNatClampNeg (((upd (uQ (sU st)) x1.toNatClampNeg (((uQ (sU st)) x1.toNatClampNeg) &&& (((1 : Int32) <<< (x3 &&& (31 : Int32))) ^^^ (-1 : Int32)))) x2.toNatClampNeg) ||| ((1 : Int32) <<< (x3 &&& (31 : Int32)))))))) H := va_P_eq hP s_St_5
              have hD : va_D A (wSt cy a (sU' st (uQ' (sU st) (upd (upd (uQ (sU st)) x1.toNatClampNeg (((uQ (sU st)) x1.toNatClampNeg) &&& (((1 : Int32) <<< (x3 &&& (31 : Int32))) ^^^ (-1 : Int32)))) x2.toNatClampNeg (((upd (uQ (sU st)) x1.toNatClampNeg (((uQ (sU st)) x1.toNatClampNeg) &&& (((1 : Int32) <<< (x3 &&& (31 : Int32))) ^^^ (-1 : Int32)))) x2.toNatClampNeg) ||| ((1 : Int32) <<< (x3 &&& (31 : Int32)))))))) := va_D_eq hD s_St_5
              refine lv_aload_n hx hb dX5_tryTake_152 rfl (lv_at hl 3 rfl) ?_
              refine lv_dup hx hb dX5_tryTake_153 rfl ?_
              refine va_get (D := D) (ci := 3) (v := .int (sK st)) (C := RX5) (T := TX5) (N := 9) hx hb hts in_X5 hown hG.1 hP 0 g_St_0 rfl 6 (by decide) k_10 (fun _ h9 => h9) rfl dX5_tryTake_154 ?_
              refine lv_iconst (v := (1 : Int32)) hx hb dX5_tryTake_157 (by decide) ?_
              refine lv_iadd hx hb dX5_tryTake_158 ?_
              refine va_put (D := D) (ci := 3) (v := .int ((sK st) + (1 : Int32))) (ty := .int) (C := RX5) (T := TX5) (N := 9) hx hb hts in_X5 tyX5 tyX5_ok nmX5 hown hG.1 hP hD hS 0 g_St_0 rfl 6 (by decide) k_10 (fun _ h9 => h9) rfl (by decide +kernel) rfl rfl (Nat.le_of_ble_eq_true rfl) dX5_tryTake_159 (fun H locs hP hD hS => ?_)
              have hP : va_P D vwCl (wSt cy a (sK' (sU' st (uQ' (sU st) (upd (upd (uQ (sU st)) x1.toNatClampNeg (((uQ (sU st)) x1.toNatClampNeg) &&& (((1 : Int32) <<< (x3 &&& (31 : Int32))) ^^^ (-1 : Int32)))) x2.toNatClampNeg (((upd (uQ (sU st)) x1.toNatClampNeg (((uQ (sU st)) x1.toNatClampNeg) &&& (((1 : Int32) <<< (x3 &&& (31 : Int32))) ^^^ (-1 : Int32)))) x2.toNatClampNeg) ||| ((1 : Int32) <<< (x3 &&& (31 : Int32))))))) ((sK st) + (1 : Int32)))) H := va_P_eq hP s_St_0_6
              have hD : va_D A (wSt cy a (sK' (sU' st (uQ' (sU st) (upd (upd (uQ (sU st)) x1.toNatClampNeg (((uQ (sU st)) x1.toNatClampNeg) &&& (((1 : Int32) <<< (x3 &&& (31 : Int32))) ^^^ (-1 : Int32)))) x2.toNatClampNeg (((upd (uQ (sU st)) x1.toNatClampNeg (((uQ (sU st)) x1.toNatClampNeg) &&& (((1 : Int32) <<< (x3 &&& (31 : Int32))) ^^^ (-1 : Int32)))) x2.toNatClampNeg) ||| ((1 : Int32) <<< (x3 &&& (31 : Int32))))))) ((sK st) + (1 : Int32)))) := va_D_eq hD s_St_0_6
              refine lv_aload_n hx hb dX5_tryTake_162 rfl (lv_at hl 3 rfl) ?_
              refine va_get (D := D) (ci := 3) (v := .ref (a 11)) (C := RX5) (T := TX5) (N := 9) hx hb hts in_X5 hown hG.1 hP 0 g_St_0 rfl 2 (by decide) k_11 (fun _ h9 => h9) rfl dX5_tryTake_163 ?_
              refine lv_iload hx hb dX5_tryTake_166 (lv_at hl 0 rfl) ?_
              refine lv_iload hx hb dX5_tryTake_168 (lv_at hl 1 rfl) ?_
              refine lv_iload hx hb dX5_tryTake_170 (lv_at hl 2 rfl) ?_
              refine lv_iload_n hx hb dX5_tryTake_172 rfl (lv_at hl 6 rfl) ?_
              refine mvVN (A0 := A) (wc := (wDe cy (a 11) (a 12) (sD st))) (As := [.int ((uO (sU st)) x2.toNatClampNeg), .int ((uO (sU st)) x1.toNatClampNeg), .int ((uK (sU st)) x2.toNatClampNeg), .int x3]) (rest := []) (c_X1_addOne l D cy (a 11) (a 12) (sD st) ((uO (sU st)) x2.toNatClampNeg) ((uO (sU st)) x1.toNatClampNeg) ((uK (sU st)) x2.toNatClampNeg) x3) hCF gX5_tryTake_X1_addOne_n163 (nw_X5_163 hG.2) k_12 k_13 k_14 rfl hd_X1_addOne ⟨rfl, rfl, Nat.le_of_ble_eq_true rfl, Nat.le_of_ble_eq_true rfl⟩ hG hP hD hS hA [11, 12] rfl c_St_De h_De (ci := 1) rfl rfl g_De_0 rfl hl.1 rfl (Nat.le_of_ble_eq_true rfl) dX5_tryTake_173 ⟨Nat.le_refl _, Nat.le_refl _⟩ (fun H locs hP hD hS => ?_)
              have hP : va_P D vwCl (wSt cy a (sD' (sK' (sU' st (uQ' (sU st) (upd (upd (uQ (sU st)) x1.toNatClampNeg (((uQ (sU st)) x1.toNatClampNeg) &&& (((1 : Int32) <<< (x3 &&& (31 : Int32))) ^^^ (-1 : Int32)))) x2.toNatClampNeg (((upd (uQ (sU st)) x1.toNatClampNeg (((uQ (sU st)) x1.toNatClampNeg) &&& (((1 : Int32) <<< (x3 &&& (31 : Int32))) ^^^ (-1 : Int32)))) x2.toNatClampNeg) ||| ((1 : Int32) <<< (x3 &&& (31 : Int32))))))) ((sK st) + (1 : Int32))) (m_X1_addOne (sD st) ((uO (sU st)) x2.toNatClampNeg) ((uO (sU st)) x1.toNatClampNeg) ((uK (sU st)) x2.toNatClampNeg) x3))) H := va_P_eq hP r_St_De
              have hD : va_D A (wSt cy a (sD' (sK' (sU' st (uQ' (sU st) (upd (upd (uQ (sU st)) x1.toNatClampNeg (((uQ (sU st)) x1.toNatClampNeg) &&& (((1 : Int32) <<< (x3 &&& (31 : Int32))) ^^^ (-1 : Int32)))) x2.toNatClampNeg (((upd (uQ (sU st)) x1.toNatClampNeg (((uQ (sU st)) x1.toNatClampNeg) &&& (((1 : Int32) <<< (x3 &&& (31 : Int32))) ^^^ (-1 : Int32)))) x2.toNatClampNeg) ||| ((1 : Int32) <<< (x3 &&& (31 : Int32))))))) ((sK st) + (1 : Int32))) (m_X1_addOne (sD st) ((uO (sU st)) x2.toNatClampNeg) ((uO (sU st)) x1.toNatClampNeg) ((uK (sU st)) x2.toNatClampNeg) x3))) := va_D_eq hD r_St_De
              refine lv_aload_n hx hb dX5_tryTake_176 rfl (lv_at hl 3 rfl) ?_
              refine va_get (D := D) (ci := 3) (v := .ref (a 11)) (C := RX5) (T := TX5) (N := 9) hx hb hts in_X5 hown hG.1 hP 0 g_St_0 rfl 2 (by decide) k_11 (fun _ h9 => h9) rfl dX5_tryTake_177 ?_
              refine lv_iload hx hb dX5_tryTake_180 (lv_at hl 0 rfl) ?_
              refine lv_iload hx hb dX5_tryTake_182 (lv_at hl 1 rfl) ?_
              refine lv_iload hx hb dX5_tryTake_184 (lv_at hl 2 rfl) ?_
              refine lv_iload_n hx hb dX5_tryTake_186 rfl (lv_at hl 6 rfl) ?_
              refine roVN (wc := (wDe cy (a 11) (a 12) (m_X1_addOne (sD st) ((uO (sU st)) x2.toNatClampNeg) ((uO (sU st)) x1.toNatClampNeg) ((uK (sU st)) x2.toNatClampNeg) x3))) (As := [.int ((uO (sU st)) x2.toNatClampNeg), .int ((uO (sU st)) x1.toNatClampNeg), .int ((uK (sU st)) x2.toNatClampNeg), .int x3]) (rest := []) (c_X1_between l D cy (a 11) (a 12) (m_X1_addOne (sD st) ((uO (sU st)) x2.toNatClampNeg) ((uO (sU st)) x1.toNatClampNeg) ((uK (sU st)) x2.toNatClampNeg) x3) ((uO (sU st)) x2.toNatClampNeg) ((uO (sU st)) x1.toNatClampNeg) ((uK (sU st)) x2.toNatClampNeg) x3) hCF gX5_tryTake_X1_between_n167 (nw_X5_167 hG.2) k_12 k_15 k_16 rfl hd_X1_between ⟨rfl, rfl, Nat.le_of_ble_eq_true rfl, Nat.le_of_ble_eq_true rfl⟩ hG (hP.sub (ws' := (wDe cy (a 11) (a 12) (m_X1_addOne (sD st) ((uO (sU st)) x2.toNatClampNeg) ((uO (sU st)) x1.toNatClampNeg) ((uK (sU st)) x2.toNatClampNeg) x3))) [11, 12] u_St_De) (ci := 1) rfl rfl g_De_0 rfl hl.1 rfl (Nat.le_of_ble_eq_true rfl) dX5_tryTake_187 ⟨Nat.le_refl _, Nat.le_refl _⟩ ?_
              exact mu_iret hx hb hr hlocks hP hS dX5_tryTake_190 (by rw [m_X5_tryTake, if_neg c_1, if_neg c_2, if_neg c_3, if_neg c_4, if_neg c_5, if_pos c_6]) (by rw [m_X5_tryTake, if_neg c_1, if_neg c_2, if_neg c_3, if_neg c_4, if_neg c_5, if_pos c_6])
            · skip
              refine lv_bipush (v := (-3 : Int32)) hx hb dX5_tryTake_84 (by decide) ?_
              exact mu_iret hx hb hr hlocks hP hS dX5_tryTake_86 (by rw [m_X5_tryTake, if_neg c_1, if_neg c_2, if_neg c_3, if_neg c_4, if_neg c_5, if_neg c_6]) (by rw [m_X5_tryTake, if_neg c_1, if_neg c_2, if_neg c_3, if_neg c_4, if_neg c_5, if_neg c_6])
      · skip
        refine lv_iconst (v := (-1 : Int32)) hx hb dX5_tryTake_29 (by decide) ?_
        exact mu_iret hx hb hr hlocks hP hS dX5_tryTake_30 (by rw [m_X5_tryTake, if_neg c_1, if_neg c_2, if_pos c_3]) (by rw [m_X5_tryTake, if_neg c_1, if_neg c_2, if_pos c_3])
def m_X5_trySettle (st : StT) (x1 : Int32) (x2 : Int32) (x3 : Int32) (x4 : Int32) : Int32 × StT := if (m_X8_isHolder x1) = (0 : Int32) then ((-1 : Int32), st) else if (m_X8_isHolder x2) = (0 : Int32) then ((-1 : Int32), st) else if (m_X8_isKind x3) = (0 : Int32) then ((-1 : Int32), st) else if (m_X8_isPart x4) = (0 : Int32) then ((-1 : Int32), st) else if (m_X1_between (sD st) x1 x2 x3 x4) = (0 : Int32) then ((-3 : Int32), st) else (m_X1_between (sD (m_X5_pay (sD' st (m_X1_removeOne (sD st) x1 x2 x3 x4)) x1 x2 ((sS st) (2 : Int32).toNatClampNeg))) x1 x2 x3 x4, m_X5_pay (sD' st (m_X1_removeOne (sD st) x1 x2 x3 x4)) x1 x2 ((sS st) (2 : Int32).toNatClampNeg))
theorem hd_X5_trySettle : yX5_trySettle.cls = RX5 ∧ yX5_trySettle.cls ≠ "java/lang/invoke/MethodHandle" ∧ yX5_trySettle.cls ≠ "java/lang/invoke/VarHandle" ∧ (parseMethodDescriptor yX5_trySettle.desc).map (fun d => d.parameters.length) = some 4 := by decide +kernel
set_option maxHeartbeats 8000000 in
set_option maxRecDepth 20000 in
theorem c_X5_trySettle (l : Launch) (D : va_G) (cy : Nat → ClassId) (a : Nat → Nat) (st : StT) (x1 : Int32) (x2 : Int32) (x3 : Int32) (x4 : Int32) (hOK : stOK st) : MU l D cy yX5_trySettle wsX5_trySettle ({ frames := 3, cells := 0, slots := 0, locals := 68 } : Room) (wSt cy a st) (wSt cy a (m_X5_trySettle st x1 x2 x3 x4).2) [.ref (a 0), .int x1, .int x2, .int x3, .int x4] (m_X5_trySettle st x1 x2 x3 x4).1 := by
  refine MU.body (by decide) rfl (Nat.le_of_ble_eq_true rfl) ?_
  intro p e s m below meth c hx hb hml hr hts hown hlocks hP hG ls hl A hD hA hS
  have hl : lv_has ls 5 [(0, .ref (a 0)), (1, .int x1), (2, .int x2), (3, .int x3), (4, .int x4)] := hl
  have hCF : CallFix p m c cX5_trySettle 5 s ([.ref (a 0), .int x1, .int x2, .int x3, .int x4] : List Value).toArray wsX5_trySettle RX5 := ⟨hx, hb, hml, hown, hts⟩
  have in_X5 : ∀ w ∈ u_ws RX5 TX5 9, w ∈ wsX5_trySettle := fun _ h => List.mem_cons_of_mem _ (List.mem_append_left _ (List.mem_append_right _ h))
  have k_0 := hts (Cond.initialized RX8) (List.mem_of_getElem? (i := 4) rfl)
  have k_1 := hts (Cond.static yX8_isHolder) (List.mem_of_getElem? (i := 3) rfl)
  have k_2 := hts (Cond.static yX8_isKind) (List.mem_of_getElem? (i := 6) rfl)
  have k_3 := hts (Cond.static yX8_isPart) (List.mem_of_getElem? (i := 8) rfl)
  have k_4 := hts (Cond.fieldLink RX5 28 "SparePool$State" "debts" "LSparePool$Debts;") (List.mem_of_getElem? (i := 1) rfl)
  have k_5 := hts (Cond.initialized RX1) (List.mem_of_getElem? (i := 11) rfl)
  have k_6 := hts (Cond.instanceMethod yX1_between) (List.mem_of_getElem? (i := 10) rfl)
  have k_7 := hts (Cond.selects RX1 yX1_between yX1_between) (List.mem_of_getElem? (i := 12) rfl)
  have k_8 := hts (Cond.instanceMethod yX1_removeOne) (List.mem_of_getElem? (i := 18) rfl)
  have k_9 := hts (Cond.selects RX1 yX1_removeOne yX1_removeOne) (List.mem_of_getElem? (i := 19) rfl)
  have k_10 := hts (Cond.fieldLink RX5 36 "SparePool$State" "setting" "[I") (List.mem_of_getElem? (i := 2) rfl)
  have hP : va_P D vwCl (wSt cy a st) s.heap := hP
  refine lv_iload_n hx hb dX5_trySettle_0 rfl (lv_at hl 1 rfl) ?_
  refine roSN (wc := ([] : va_W)) (As := [.int x1]) (rest := []) (c_X8_isHolder l D cy x1) hCF gX5_trySettle_X8_isHolder_n82 (nw_X5_82 hG.2) k_0 k_1 rfl hd_X8_isHolder.2 ⟨rfl, rfl, Nat.le_of_ble_eq_true rfl, Nat.le_of_ble_eq_true rfl⟩ hG va_P_nil rfl hl.1 rfl (Nat.le_of_ble_eq_true rfl) dX5_trySettle_1 ⟨Nat.le_refl _, Nat.le_refl _⟩ ?_
  refine lv_if_eq (tgt := 29) hx hb dX5_trySettle_4 (by decide) (fun c_1 => ?_) (fun c_1 => ?_)
  · skip
    refine lv_iconst (v := (-1 : Int32)) hx hb dX5_trySettle_29 (by decide) ?_
    exact mu_iret hx hb hr hlocks hP hS dX5_trySettle_30 (by rw [m_X5_trySettle, if_pos c_1]) (by rw [m_X5_trySettle, if_pos c_1])
  · skip
    refine lv_iload_n hx hb dX5_trySettle_7 rfl (lv_at hl 2 rfl) ?_
    refine roSN (wc := ([] : va_W)) (As := [.int x2]) (rest := []) (c_X8_isHolder l D cy x2) hCF gX5_trySettle_X8_isHolder_n82 (nw_X5_82 hG.2) k_0 k_1 rfl hd_X8_isHolder.2 ⟨rfl, rfl, Nat.le_of_ble_eq_true rfl, Nat.le_of_ble_eq_true rfl⟩ hG va_P_nil rfl hl.1 rfl (Nat.le_of_ble_eq_true rfl) dX5_trySettle_8 ⟨Nat.le_refl _, Nat.le_refl _⟩ ?_
    refine lv_if_eq (tgt := 29) hx hb dX5_trySettle_11 (by decide) (fun c_2 => ?_) (fun c_2 => ?_)
    · skip
      refine lv_iconst (v := (-1 : Int32)) hx hb dX5_trySettle_29 (by decide) ?_
      exact mu_iret hx hb hr hlocks hP hS dX5_trySettle_30 (by rw [m_X5_trySettle, if_neg c_1, if_pos c_2]) (by rw [m_X5_trySettle, if_neg c_1, if_pos c_2])
    · skip
      refine lv_iload_n hx hb dX5_trySettle_14 rfl (lv_at hl 3 rfl) ?_
      refine roSN (wc := ([] : va_W)) (As := [.int x3]) (rest := []) (c_X8_isKind l D cy x3) hCF gX5_trySettle_X8_isKind_n78 (nw_X5_78 hG.2) k_0 k_2 rfl hd_X8_isKind.2 ⟨rfl, rfl, Nat.le_of_ble_eq_true rfl, Nat.le_of_ble_eq_true rfl⟩ hG va_P_nil rfl hl.1 rfl (Nat.le_of_ble_eq_true rfl) dX5_trySettle_15 ⟨Nat.le_refl _, Nat.le_refl _⟩ ?_
      refine lv_if_eq (tgt := 29) hx hb dX5_trySettle_18 (by decide) (fun c_3 => ?_) (fun c_3 => ?_)
      · skip
        refine lv_iconst (v := (-1 : Int32)) hx hb dX5_trySettle_29 (by decide) ?_
        exact mu_iret hx hb hr hlocks hP hS dX5_trySettle_30 (by rw [m_X5_trySettle, if_neg c_1, if_neg c_2, if_pos c_3]) (by rw [m_X5_trySettle, if_neg c_1, if_neg c_2, if_pos c_3])
      · skip
        refine lv_iload hx hb dX5_trySettle_21 (lv_at hl 4 rfl) ?_
        refine roSN (wc := ([] : va_W)) (As := [.int x4]) (rest := []) (c_X8_isPart l D cy x4) hCF gX5_trySettle_X8_isPart_n149 (nw_X5_149 hG.2) k_0 k_3 rfl hd_X8_isPart.2 ⟨rfl, rfl, Nat.le_of_ble_eq_true rfl, Nat.le_of_ble_eq_true rfl⟩ hG va_P_nil rfl hl.1 rfl (Nat.le_of_ble_eq_true rfl) dX5_trySettle_23 ⟨Nat.le_refl _, Nat.le_refl _⟩ ?_
        refine lv_if_ne (tgt := 31) hx hb dX5_trySettle_26 (by decide) (fun c_4 => ?_) (fun c_4 => ?_)
        · skip
          refine lv_aload_n hx hb dX5_trySettle_31 rfl (lv_at hl 0 rfl) ?_
          refine va_get (D := D) (ci := 3) (v := .ref (a 11)) (C := RX5) (T := TX5) (N := 9) hx hb hts in_X5 hown hG.1 hP 0 g_St_0 rfl 2 (by decide) k_4 (fun _ h9 => h9) rfl dX5_trySettle_32 ?_
          refine lv_iload_n hx hb dX5_trySettle_35 rfl (lv_at hl 1 rfl) ?_
          refine lv_iload_n hx hb dX5_trySettle_36 rfl (lv_at hl 2 rfl) ?_
          refine lv_iload_n hx hb dX5_trySettle_37 rfl (lv_at hl 3 rfl) ?_
          refine lv_iload hx hb dX5_trySettle_38 (lv_at hl 4 rfl) ?_
          refine roVN (wc := (wDe cy (a 11) (a 12) (sD st))) (As := [.int x1, .int x2, .int x3, .int x4]) (rest := []) (c_X1_between l D cy (a 11) (a 12) (sD st) x1 x2 x3 x4) hCF gX5_trySettle_X1_between_n167 (nw_X5_167 hG.2) k_5 k_6 k_7 rfl hd_X1_between ⟨rfl, rfl, Nat.le_of_ble_eq_true rfl, Nat.le_of_ble_eq_true rfl⟩ hG (hP.sub (ws' := (wDe cy (a 11) (a 12) (sD st))) [11, 12] u_St_De) (ci := 1) rfl rfl g_De_0 rfl hl.1 rfl (Nat.le_of_ble_eq_true rfl) dX5_trySettle_40 ⟨Nat.le_refl _, Nat.le_refl _⟩ ?_
          refine lv_if_ne (tgt := 49) hx hb dX5_trySettle_43 (by decide) (fun c_5 => ?_) (fun c_5 => ?_)
          · skip
            refine lv_aload_n hx hb dX5_trySettle_49 rfl (lv_at hl 0 rfl) ?_
            refine va_get (D := D) (ci := 3) (v := .ref (a 11)) (C := RX5) (T := TX5) (N := 9) hx hb hts in_X5 hown hG.1 hP 0 g_St_0 rfl 2 (by decide) k_4 (fun _ h9 => h9) rfl dX5_trySettle_50 ?_
            refine lv_iload_n hx hb dX5_trySettle_53 rfl (lv_at hl 1 rfl) ?_
            refine lv_iload_n hx hb dX5_trySettle_54 rfl (lv_at hl 2 rfl) ?_
            refine lv_iload_n hx hb dX5_trySettle_55 rfl (lv_at hl 3 rfl) ?_
            refine lv_iload hx hb dX5_trySettle_56 (lv_at hl 4 rfl) ?_
            refine mvVN (A0 := A) (wc := (wDe cy (a 11) (a 12) (sD st))) (As := [.int x1, .int x2, .int x3, .int x4]) (rest := []) (c_X1_removeOne l D cy (a 11) (a 12) (sD st) x1 x2 x3 x4) hCF gX5_trySettle_X1_removeOne_n171 (nw_X5_171 hG.2) k_5 k_8 k_9 rfl hd_X1_removeOne ⟨rfl, rfl, Nat.le_of_ble_eq_true rfl, Nat.le_of_ble_eq_true rfl⟩ hG hP hD hS hA [11, 12] rfl c_St_De h_De (ci := 1) rfl rfl g_De_0 rfl hl.1 rfl (Nat.le_of_ble_eq_true rfl) dX5_trySettle_58 ⟨Nat.le_refl _, Nat.le_refl _⟩ (fun H locs hP hD hS => ?_)
            have hP : va_P D vwCl (wSt cy a (sD' st (m_X1_removeOne (sD st) x1 x2 x3 x4))) H := va_P_eq hP r_St_De
            have hD : va_D A (wSt cy a (sD' st (m_X1_removeOne (sD st) x1 x2 x3 x4))) := va_D_eq hD r_St_De
            refine lv_aload_n hx hb dX5_trySettle_61 rfl (lv_at hl 0 rfl) ?_
            refine lv_iload_n hx hb dX5_trySettle_62 rfl (lv_at hl 1 rfl) ?_
            refine lv_iload_n hx hb dX5_trySettle_63 rfl (lv_at hl 2 rfl) ?_
            refine lv_aload_n hx hb dX5_trySettle_64 rfl (lv_at hl 0 rfl) ?_
            refine va_get (D := D) (ci := 3) (v := .ref (a 14)) (C := RX5) (T := TX5) (N := 9) hx hb hts in_X5 hown hG.1 hP 0 g_St_0 rfl 4 (by decide) k_10 (fun _ h9 => h9) rfl dX5_trySettle_65 ?_
            refine lv_iconst (v := (2 : Int32)) hx hb dX5_trySettle_68 (by decide) ?_
            refine va_iald hx hb hG.1 hP 14 0 (n := 3) (f := (sS st)) g_St_14 rfl (bd_of (by decide) (by decide)) dX5_trySettle_69 ?_
            refine mvV (A0 := A) (wc := (wSt cy a (sD' st (m_X1_removeOne (sD st) x1 x2 x3 x4)))) (As := [.int x1, .int x2, .int ((sS st) (2 : Int32).toNatClampNeg)]) (rest := []) (c_X5_pay l D cy a (sD' st (m_X1_removeOne (sD st) x1 x2 x3 x4)) x1 x2 ((sS st) (2 : Int32).toNatClampNeg)) hCF gX5_trySettle_X5_pay rfl hd_X5_pay ⟨rfl, rfl, Nat.le_of_ble_eq_true rfl, Nat.le_of_ble_eq_true rfl⟩ hG hP hD hS hA [0, 1, 2, 3, 4, 5, 6, 7, 8, 9, 10, 11, 12, 13, 14] rfl c_St_St h_St (ci := 3) rfl rfl g_St_0 rfl hl.1 rfl (Nat.le_of_ble_eq_true rfl) dX5_trySettle_70 ⟨Nat.le_refl _, Nat.le_refl _⟩ (fun H locs hP hD hS => ?_)
            have hP : va_P D vwCl (wSt cy a (m_X5_pay (sD' st (m_X1_removeOne (sD st) x1 x2 x3 x4)) x1 x2 ((sS st) (2 : Int32).toNatClampNeg))) H := va_P_eq hP r_St_St
            have hD : va_D A (wSt cy a (m_X5_pay (sD' st (m_X1_removeOne (sD st) x1 x2 x3 x4)) x1 x2 ((sS st) (2 : Int32).toNatClampNeg))) := va_D_eq hD r_St_St
            refine lv_aload_n hx hb dX5_trySettle_73 rfl (lv_at hl 0 rfl) ?_
            refine va_get (D := D) (ci := 3) (v := .ref (a 11)) (C := RX5) (T := TX5) (N := 9) hx hb hts in_X5 hown hG.1 hP 0 g_St_0 rfl 2 (by decide) k_4 (fun _ h9 => h9) rfl dX5_trySettle_74 ?_
            refine lv_iload_n hx hb dX5_trySettle_77 rfl (lv_at hl 1 rfl) ?_
            refine lv_iload_n hx hb dX5_trySettle_78 rfl (lv_at hl 2 rfl) ?_
            refine lv_iload_n hx hb dX5_trySettle_79 rfl (lv_at hl 3 rfl) ?_
            refine lv_iload hx hb dX5_trySettle_80 (lv_at hl 4 rfl) ?_
            refine roVN (wc := (wDe cy (a 11) (a 12) (sD (m_X5_pay (sD' st (m_X1_removeOne (sD st) x1 x2 x3 x4)) x1 x2 ((sS st) (2 : Int32).toNatClampNeg))))) (As := [.int x1, .int x2, .int x3, .int x4]) (rest := []) (c_X1_between l D cy (a 11) (a 12) (sD (m_X5_pay (sD' st (m_X1_removeOne (sD st) x1 x2 x3 x4)) x1 x2 ((sS st) (2 : Int32).toNatClampNeg))) x1 x2 x3 x4) hCF gX5_trySettle_X1_between_n167 (nw_X5_167 hG.2) k_5 k_6 k_7 rfl hd_X1_between ⟨rfl, rfl, Nat.le_of_ble_eq_true rfl, Nat.le_of_ble_eq_true rfl⟩ hG (hP.sub (ws' := (wDe cy (a 11) (a 12) (sD (m_X5_pay (sD' st (m_X1_removeOne (sD st) x1 x2 x3 x4)) x1 x2 ((sS st) (2 : Int32).toNatClampNeg))))) [11, 12] u_St_De) (ci := 1) rfl rfl g_De_0 rfl hl.1 rfl (Nat.le_of_ble_eq_true rfl) dX5_trySettle_82 ⟨Nat.le_refl _, Nat.le_refl _⟩ ?_
            exact mu_iret hx hb hr hlocks hP hS dX5_trySettle_85 (by rw [m_X5_trySettle, if_neg c_1, if_neg c_2, if_neg c_3, if_neg c_4, if_neg c_5]) (by rw [m_X5_trySettle, if_neg c_1, if_neg c_2, if_neg c_3, if_neg c_4, if_neg c_5])
          · skip
            refine lv_bipush (v := (-3 : Int32)) hx hb dX5_trySettle_46 (by decide) ?_
            exact mu_iret hx hb hr hlocks hP hS dX5_trySettle_48 (by rw [m_X5_trySettle, if_neg c_1, if_neg c_2, if_neg c_3, if_neg c_4, if_pos c_5]) (by rw [m_X5_trySettle, if_neg c_1, if_neg c_2, if_neg c_3, if_neg c_4, if_pos c_5])
        · skip
          refine lv_iconst (v := (-1 : Int32)) hx hb dX5_trySettle_29 (by decide) ?_
          exact mu_iret hx hb hr hlocks hP hS dX5_trySettle_30 (by rw [m_X5_trySettle, if_neg c_1, if_neg c_2, if_neg c_3, if_pos c_4]) (by rw [m_X5_trySettle, if_neg c_1, if_neg c_2, if_neg c_3, if_pos c_4])
def m_X5_tryBuy (st : StT) (x1 : Int32) (x2 : Int32) : Int32 × StT := if (m_X7_has (sU st) x1) = (0 : Int32) then ((-1 : Int32), st) else if (m_X8_isPart x2) = (0 : Int32) then ((-1 : Int32), st) else if (m_X7_hasPart (sU st) x1 x2) = (0 : Int32) then ((uQ (sU (m_X5_pay (sU' st (uQ' (sU st) (upd (uQ (sU st)) x1.toNatClampNeg (((uQ (sU st)) x1.toNatClampNeg) ||| ((1 : Int32) <<< (x2 &&& (31 : Int32))))))) ((uO (sU st)) x1.toNatClampNeg) (-1 : Int32) ((sS st) (2 : Int32).toNatClampNeg)))) x1.toNatClampNeg, m_X5_pay (sU' st (uQ' (sU st) (upd (uQ (sU st)) x1.toNatClampNeg (((uQ (sU st)) x1.toNatClampNeg) ||| ((1 : Int32) <<< (x2 &&& (31 : Int32))))))) ((uO (sU st)) x1.toNatClampNeg) (-1 : Int32) ((sS st) (2 : Int32).toNatClampNeg)) else ((-3 : Int32), st)
theorem hd_X5_tryBuy : yX5_tryBuy.cls = RX5 ∧ yX5_tryBuy.cls ≠ "java/lang/invoke/MethodHandle" ∧ yX5_tryBuy.cls ≠ "java/lang/invoke/VarHandle" ∧ (parseMethodDescriptor yX5_tryBuy.desc).map (fun d => d.parameters.length) = some 2 := by decide +kernel
set_option maxHeartbeats 8000000 in
set_option maxRecDepth 20000 in
theorem c_X5_tryBuy (l : Launch) (D : va_G) (cy : Nat → ClassId) (a : Nat → Nat) (st : StT) (x1 : Int32) (x2 : Int32) (hOK : stOK st) : MU l D cy yX5_tryBuy wsX5_tryBuy ({ frames := 2, cells := 0, slots := 0, locals := 43 } : Room) (wSt cy a st) (wSt cy a (m_X5_tryBuy st x1 x2).2) [.ref (a 0), .int x1, .int x2] (m_X5_tryBuy st x1 x2).1 := by
  refine MU.body (by decide) rfl (Nat.le_of_ble_eq_true rfl) ?_
  intro p e s m below meth c hx hb hml hr hts hown hlocks hP hG ls hl A hD hA hS
  have hl : lv_has ls 3 [(0, .ref (a 0)), (1, .int x1), (2, .int x2)] := hl
  have hCF : CallFix p m c cX5_tryBuy 3 s ([.ref (a 0), .int x1, .int x2] : List Value).toArray wsX5_tryBuy RX5 := ⟨hx, hb, hml, hown, hts⟩
  have in_X5 : ∀ w ∈ u_ws RX5 TX5 9, w ∈ wsX5_tryBuy := fun _ h => List.mem_cons_of_mem _ (List.mem_append_left _ (List.mem_append_right _ h))
  have in_X7 : ∀ w ∈ u_ws RX7 TX7 6, w ∈ wsX5_tryBuy := fun _ h => List.mem_cons_of_mem _ (List.mem_append_right _ h)
  have k_0 := hts (Cond.fieldLink RX5 12 "SparePool$State" "units" "LSparePool$Units;") (List.mem_of_getElem? (i := 1) rfl)
  have k_1 := hts (Cond.initialized RX7) (List.mem_of_getElem? (i := 4) rfl)
  have k_2 := hts (Cond.instanceMethod yX7_has) (List.mem_of_getElem? (i := 3) rfl)
  have k_3 := hts (Cond.selects RX7 yX7_has yX7_has) (List.mem_of_getElem? (i := 5) rfl)
  have k_4 := hts (Cond.initialized RX8) (List.mem_of_getElem? (i := 9) rfl)
  have k_5 := hts (Cond.static yX8_isPart) (List.mem_of_getElem? (i := 8) rfl)
  have k_6 := hts (Cond.instanceMethod yX7_hasPart) (List.mem_of_getElem? (i := 11) rfl)
  have k_7 := hts (Cond.selects RX7 yX7_hasPart yX7_hasPart) (List.mem_of_getElem? (i := 12) rfl)
  have k_8 := hts (Cond.fieldLink RX5 36 "SparePool$State" "setting" "[I") (List.mem_of_getElem? (i := 2) rfl)
  have hP : va_P D vwCl (wSt cy a st) s.heap := hP
  refine lv_aload_n hx hb dX5_tryBuy_0 rfl (lv_at hl 0 rfl) ?_
  refine va_get (D := D) (ci := 3) (v := .ref (a 1)) (C := RX5) (T := TX5) (N := 9) hx hb hts in_X5 hown hG.1 hP 0 g_St_0 rfl 0 (by decide) k_0 (fun _ h9 => h9) rfl dX5_tryBuy_1 ?_
  refine lv_iload_n hx hb dX5_tryBuy_4 rfl (lv_at hl 1 rfl) ?_
  refine roVN (wc := (wUn cy (a 1) (a 2) (a 3) (a 4) (a 5) (a 6) (sU st))) (As := [.int x1]) (rest := []) (c_X7_has l D cy (a 1) (a 2) (a 3) (a 4) (a 5) (a 6) (sU st) x1 hOK.1) hCF gX5_tryBuy_X7_has_n89 (nw_X5_89 hG.2) k_1 k_2 k_3 rfl hd_X7_has ⟨rfl, rfl, Nat.le_of_ble_eq_true rfl, Nat.le_of_ble_eq_true rfl⟩ hG (hP.sub (ws' := (wUn cy (a 1) (a 2) (a 3) (a 4) (a 5) (a 6) (sU st))) [1, 2, 3, 4, 5, 6] u_St_Un) (ci := 5) rfl rfl g_Un_0 rfl hl.1 rfl (Nat.le_of_ble_eq_true rfl) dX5_tryBuy_5 ⟨Nat.le_refl _, Nat.le_refl _⟩ ?_
  refine lv_if_eq (tgt := 18) hx hb dX5_tryBuy_8 (by decide) (fun c_1 => ?_) (fun c_1 => ?_)
  · skip
    refine lv_iconst (v := (-1 : Int32)) hx hb dX5_tryBuy_18 (by decide) ?_
    exact mu_iret hx hb hr hlocks hP hS dX5_tryBuy_19 (by rw [m_X5_tryBuy, if_pos c_1]) (by rw [m_X5_tryBuy, if_pos c_1])
  · skip
    refine lv_iload_n hx hb dX5_tryBuy_11 rfl (lv_at hl 2 rfl) ?_
    refine roSN (wc := ([] : va_W)) (As := [.int x2]) (rest := []) (c_X8_isPart l D cy x2) hCF gX5_tryBuy_X8_isPart_n149 (nw_X5_149 hG.2) k_4 k_5 rfl hd_X8_isPart.2 ⟨rfl, rfl, Nat.le_of_ble_eq_true rfl, Nat.le_of_ble_eq_true rfl⟩ hG va_P_nil rfl hl.1 rfl (Nat.le_of_ble_eq_true rfl) dX5_tryBuy_12 ⟨Nat.le_refl _, Nat.le_refl _⟩ ?_
    refine lv_if_ne (tgt := 20) hx hb dX5_tryBuy_15 (by decide) (fun c_2 => ?_) (fun c_2 => ?_)
    · skip
      refine lv_aload_n hx hb dX5_tryBuy_20 rfl (lv_at hl 0 rfl) ?_
      refine va_get (D := D) (ci := 3) (v := .ref (a 1)) (C := RX5) (T := TX5) (N := 9) hx hb hts in_X5 hown hG.1 hP 0 g_St_0 rfl 0 (by decide) k_0 (fun _ h9 => h9) rfl dX5_tryBuy_21 ?_
      refine lv_iload_n hx hb dX5_tryBuy_24 rfl (lv_at hl 1 rfl) ?_
      refine lv_iload_n hx hb dX5_tryBuy_25 rfl (lv_at hl 2 rfl) ?_
      refine roVN (wc := (wUn cy (a 1) (a 2) (a 3) (a 4) (a 5) (a 6) (sU st))) (As := [.int x1, .int x2]) (rest := []) (c_X7_hasPart l D cy (a 1) (a 2) (a 3) (a 4) (a 5) (a 6) (sU st) x1 x2 hOK.1) hCF gX5_tryBuy_X7_hasPart_n156 (nw_X5_156 hG.2) k_1 k_6 k_7 rfl hd_X7_hasPart ⟨rfl, rfl, Nat.le_of_ble_eq_true rfl, Nat.le_of_ble_eq_true rfl⟩ hG (hP.sub (ws' := (wUn cy (a 1) (a 2) (a 3) (a 4) (a 5) (a 6) (sU st))) [1, 2, 3, 4, 5, 6] u_St_Un) (ci := 5) rfl rfl g_Un_0 rfl hl.1 rfl (Nat.le_of_ble_eq_true rfl) dX5_tryBuy_26 ⟨Nat.le_refl _, Nat.le_refl _⟩ ?_
      refine lv_if_eq (tgt := 35) hx hb dX5_tryBuy_29 (by decide) (fun c_3 => ?_) (fun c_3 => ?_)
      · skip
        refine lv_aload_n hx hb dX5_tryBuy_35 rfl (lv_at hl 0 rfl) ?_
        refine va_get (D := D) (ci := 3) (v := .ref (a 1)) (C := RX5) (T := TX5) (N := 9) hx hb hts in_X5 hown hG.1 hP 0 g_St_0 rfl 0 (by decide) k_0 (fun _ h9 => h9) rfl dX5_tryBuy_36 ?_
        refine va_getN (D := D) (ci := 5) (v := .ref (a 5)) (C := RX7) (T := TX7) (N := 6) hx hb hts in_X7 hown hG.1 hP 1 g_St_1 rfl 3 (by decide) (va_Nw.use rfl (nw_X5_160 hG.2)) (fun _ h9 => h9) rfl dX5_tryBuy_39 ?_
        refine lv_iload_n hx hb dX5_tryBuy_42 rfl (lv_at hl 1 rfl) ?_
        refine lv_dup2_11 hx hb dX5_tryBuy_43 rfl rfl ?_
        refine va_iald hx hb hG.1 hP 5 0 (n := 16) (f := (uQ (sU st))) g_St_5 rfl (bd_has hOK.1 c_1) dX5_tryBuy_44 ?_
        refine lv_iconst (v := (1 : Int32)) hx hb dX5_tryBuy_45 (by decide) ?_
        refine lv_iload_n hx hb dX5_tryBuy_46 rfl (lv_at hl 2 rfl) ?_
        refine lv_ishl hx hb dX5_tryBuy_47 ?_
        refine lv_ior hx hb dX5_tryBuy_48 ?_
        refine va_iast hx hb hG.1 hP hD hS 5 0 (n := 16) (f := (uQ (sU st))) g_St_5 rfl (bd_has hOK.1 c_1) dX5_tryBuy_49 (fun H locs hP hD hS => ?_)
        have hP : va_P D vwCl (wSt cy a (sU' st (uQ' (sU st) (upd (uQ (sU st)) x1.toNatClampNeg (((uQ (sU st)) x1.toNatClampNeg) ||| ((1 : Int32) <<< (x2 &&& (31 : Int32)))))))) H := va_P_eq hP s_St_5
        have hD : va_D A (wSt cy a (sU' st (uQ' (sU st) (upd (uQ (sU st)) x1.toNatClampNeg (((uQ (sU st)) x1.toNatClampNeg) ||| ((1 : Int32) <<< (x2 &&& (31 : Int32)))))))) := va_D_eq hD s_St_5
        refine lv_aload_n hx hb dX5_tryBuy_50 rfl (lv_at hl 0 rfl) ?_
        refine lv_aload_n hx hb dX5_tryBuy_51 rfl (lv_at hl 0 rfl) ?_
        refine va_get (D := D) (ci := 3) (v := .ref (a 1)) (C := RX5) (T := TX5) (N := 9) hx hb hts in_X5 hown hG.1 hP 0 g_St_0 rfl 0 (by decide) k_0 (fun _ h9 => h9) rfl dX5_tryBuy_52 ?_
        refine va_getN (D := D) (ci := 5) (v := .ref (a 3)) (C := RX7) (T := TX7) (N := 6) hx hb hts in_X7 hown hG.1 hP 1 g_St_1 rfl 1 (by decide) (va_Nw.use rfl (nw_X5_98 hG.2)) (fun _ h9 => h9) rfl dX5_tryBuy_55 ?_
        refine lv_iload_n hx hb dX5_tryBuy_58 rfl (lv_at hl 1 rfl) ?_
        refine va_iald hx hb hG.1 hP 3 0 (n := 16) (f := (uO (sU st))) g_St_3 rfl (bd_has hOK.1 c_1) dX5_tryBuy_59 ?_
        refine lv_iconst (v := (-1 : Int32)) hx hb dX5_tryBuy_60 (by decide) ?_
        refine lv_aload_n hx hb dX5_tryBuy_61 rfl (lv_at hl 0 rfl) ?_
        refine va_get (D := D) (ci := 3) (v := .ref (a 14)) (C := RX5) (T := TX5) (N := 9) hx hb hts in_X5 hown hG.1 hP 0 g_St_0 rfl 4 (by decide) k_8 (fun _ h9 => h9) rfl dX5_tryBuy_62 ?_
        refine lv_iconst (v := (2 : Int32)) hx hb dX5_tryBuy_65 (by decide) ?_
        refine va_iald hx hb hG.1 hP 14 0 (n := 3) (f := (sS st)) g_St_14 rfl (bd_of (by decide) (by decide)) dX5_tryBuy_66 ?_
        refine mvV (A0 := A) (wc := (wSt cy a (sU' st (uQ' (sU st) (upd (uQ (sU st)) x1.toNatClampNeg (((uQ (sU st)) x1.toNatClampNeg) ||| ((1 : Int32) <<< (x2 &&& (31 : Int32))))))))) (As := [.int ((uO (sU st)) x1.toNatClampNeg), .int (-1 : Int32), .int ((sS st) (2 : Int32).toNatClampNeg)]) (rest := []) (c_X5_pay l D cy a (sU' st (uQ' (sU st) (upd (uQ (sU st)) x1.toNatClampNeg (((uQ (sU st)) x1.toNatClampNeg) ||| ((1 : Int32) <<< (x2 &&& (31 : Int32))))))) ((uO (sU st)) x1.toNatClampNeg) (-1 : Int32) ((sS st) (2 : Int32).toNatClampNeg)) hCF gX5_tryBuy_X5_pay rfl hd_X5_pay ⟨rfl, rfl, Nat.le_of_ble_eq_true rfl, Nat.le_of_ble_eq_true rfl⟩ hG hP hD hS hA [0, 1, 2, 3, 4, 5, 6, 7, 8, 9, 10, 11, 12, 13, 14] rfl c_St_St h_St (ci := 3) rfl rfl g_St_0 rfl hl.1 rfl (Nat.le_of_ble_eq_true rfl) dX5_tryBuy_67 ⟨Nat.le_refl _, Nat.le_refl _⟩ (fun H locs hP hD hS => ?_)
        have hP : va_P D vwCl (wSt cy a (m_X5_pay (sU' st (uQ' (sU st) (upd (uQ (sU st)) x1.toNatClampNeg (((uQ (sU st)) x1.toNatClampNeg) ||| ((1 : Int32) <<< (x2 &&& (31 : Int32))))))) ((uO (sU st)) x1.toNatClampNeg) (-1 : Int32) ((sS st) (2 : Int32).toNatClampNeg))) H := va_P_eq hP r_St_St
        have hD : va_D A (wSt cy a (m_X5_pay (sU' st (uQ' (sU st) (upd (uQ (sU st)) x1.toNatClampNeg (((uQ (sU st)) x1.toNatClampNeg) ||| ((1 : Int32) <<< (x2 &&& (31 : Int32))))))) ((uO (sU st)) x1.toNatClampNeg) (-1 : Int32) ((sS st) (2 : Int32).toNatClampNeg))) := va_D_eq hD r_St_St
        refine lv_aload_n hx hb dX5_tryBuy_70 rfl (lv_at hl 0 rfl) ?_
        refine va_get (D := D) (ci := 3) (v := .ref (a 1)) (C := RX5) (T := TX5) (N := 9) hx hb hts in_X5 hown hG.1 hP 0 g_St_0 rfl 0 (by decide) k_0 (fun _ h9 => h9) rfl dX5_tryBuy_71 ?_
        refine va_getN (D := D) (ci := 5) (v := .ref (a 5)) (C := RX7) (T := TX7) (N := 6) hx hb hts in_X7 hown hG.1 hP 1 g_St_1 rfl 3 (by decide) (va_Nw.use rfl (nw_X5_160 hG.2)) (fun _ h9 => h9) rfl dX5_tryBuy_74 ?_
        refine lv_iload_n hx hb dX5_tryBuy_77 rfl (lv_at hl 1 rfl) ?_
        refine va_iald hx hb hG.1 hP 5 0 (n := 16) (f := (uQ (sU (m_X5_pay (sU' st (uQ' (sU st) (upd (uQ (sU st)) x1.toNatClampNeg (((uQ (sU st)) x1.toNatClampNeg) ||| ((1 : Int32) <<< (x2 &&& (31 : Int32))))))) ((uO (sU st)) x1.toNatClampNeg) (-1 : Int32) ((sS st) (2 : Int32).toNatClampNeg))))) g_St_5 rfl (bd_has hOK.1 c_1) dX5_tryBuy_78 ?_
        exact mu_iret hx hb hr hlocks hP hS dX5_tryBuy_79 (by rw [m_X5_tryBuy, if_neg c_1, if_neg c_2, if_pos c_3]) (by rw [m_X5_tryBuy, if_neg c_1, if_neg c_2, if_pos c_3])
      · skip
        refine lv_bipush (v := (-3 : Int32)) hx hb dX5_tryBuy_32 (by decide) ?_
        exact mu_iret hx hb hr hlocks hP hS dX5_tryBuy_34 (by rw [m_X5_tryBuy, if_neg c_1, if_neg c_2, if_neg c_3]) (by rw [m_X5_tryBuy, if_neg c_1, if_neg c_2, if_neg c_3])
    · skip
      refine lv_iconst (v := (-1 : Int32)) hx hb dX5_tryBuy_18 (by decide) ?_
      exact mu_iret hx hb hr hlocks hP hS dX5_tryBuy_19 (by rw [m_X5_tryBuy, if_neg c_1, if_pos c_2]) (by rw [m_X5_tryBuy, if_neg c_1, if_pos c_2])
