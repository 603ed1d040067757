def m_X5_trySet (st : StT) (x1 : Int32) (x2 : Int32) : Int32 × StT := if (m_X8_isSetting x1) = (0 : Int32) then ((-2 : Int32), st) else if x2 < (0 : Int32) then ((-2 : Int32), st) else if x2 ≤ (fxM x1.toNatClampNeg) then ((sS st) x1.toNatClampNeg, sS' st (upd (sS st) x1.toNatClampNeg x2)) else ((-2 : Int32), st)
theorem hd_X5_trySet : yX5_trySet.cls = RX5 ∧ yX5_trySet.cls ≠ "java/lang/invoke/MethodHandle" ∧ yX5_trySet.cls ≠ "java/lang/invoke/VarHandle" ∧ (parseMethodDescriptor yX5_trySet.desc).map (fun d => d.parameters.length) = some 2 := by decide +kernel
set_option maxHeartbeats 8000000 in
set_option maxRecDepth 20000 in
theorem c_X5_trySet (l : Launch) (D : va_G) (cy : Nat → ClassId) (t : FxA) (a : Nat → Nat) (st : StT) (x1 : Int32) (x2 : Int32) : MUf l D cy t yX5_trySet wsX5_trySet ({ frames := 1, cells := 0, slots := 0, locals := 20 } : Room) (wSt cy a st) (wSt cy a (m_X5_trySet st x1 x2).2) [.ref (a 0), .int x1, .int x2] (m_X5_trySet st x1 x2).1 := by
  refine MUf.body (by decide) rfl (Nat.le_of_ble_eq_true rfl) ?_
  intro p e s m below meth c hx hb hml hr hts hown hlocks hP hG ls hl A hD hA hS hF
  have hl : lv_has ls 4 [(0, .ref (a 0)), (1, .int x1), (2, .int x2)] := hl
  have hCF : CallFix p m c cX5_trySet 4 s ([.ref (a 0), .int x1, .int x2] : List Value).toArray wsX5_trySet RX5 := ⟨hx, hb, hml, hown, hts⟩
  have in_X5 : ∀ w ∈ u_ws RX5 TX5 9, w ∈ wsX5_trySet := fun _ h => List.mem_cons_of_mem _ (List.mem_append_right _ h)
  have k_0 := hts (Cond.initialized RX8) (List.mem_of_getElem? (i := 3) rfl)
  have k_1 := hts (Cond.static yX8_isSetting) (List.mem_of_getElem? (i := 2) rfl)
  have k_2 := hts (Cond.fieldLink RX5 36 "SparePool$State" "setting" "[I") (List.mem_of_getElem? (i := 1) rfl)
  have hP : va_P D vwCl (wSt cy a st) s.heap := hP
  refine lv_iload_n hx hb dX5_trySet_0 rfl (lv_at hl 1 rfl) ?_
  refine roSN (wc := ([] : va_W)) (As := [.int x1]) (rest := []) (c_X8_isSetting l D cy x1) hCF gX5_trySet_X8_isSetting_n174 (nw_X5_174 hG.2) k_0 k_1 rfl hd_X8_isSetting.2 ⟨rfl, rfl, Nat.le_of_ble_eq_true rfl, Nat.le_of_ble_eq_true rfl⟩ hG va_P_nil rfl hl.1 rfl (Nat.le_of_ble_eq_true rfl) dX5_trySet_1 ⟨Nat.le_refl _, Nat.le_refl _⟩ ?_
  refine lv_if_eq (tgt := 20) hx hb dX5_trySet_4 (by decide) (fun c_1 => ?_) (fun c_1 => ?_)
  · skip
    refine lv_bipush (v := (-2 : Int32)) hx hb dX5_trySet_20 (by decide) ?_
    exact mu_iret hx hb hr hlocks hP hS dX5_trySet_22 (by rw [m_X5_trySet, if_pos c_1]) (by rw [m_X5_trySet, if_pos c_1])
  · skip
    refine lv_iload_n hx hb dX5_trySet_7 rfl (lv_at hl 2 rfl) ?_
    refine lv_if_lt (tgt := 20) hx hb dX5_trySet_8 (by decide) (fun c_2 => ?_) (fun c_2 => ?_)
    · skip
      refine lv_bipush (v := (-2 : Int32)) hx hb dX5_trySet_20 (by decide) ?_
      exact mu_iret hx hb hr hlocks hP hS dX5_trySet_22 (by rw [m_X5_trySet, if_neg c_1, if_pos c_2]) (by rw [m_X5_trySet, if_neg c_1, if_pos c_2])
    · skip
      refine lv_iload_n hx hb dX5_trySet_11 rfl (lv_at hl 2 rfl) ?_
      refine va_getsN hx hb hF.1.2.1 hS hown (va_Nw.use rfl (nw_X5_177 hG.2)) (fun _ h9 => h9) dX5_trySet_12 ?_
      refine lv_iload_n hx hb dX5_trySet_15 rfl (lv_at hl 1 rfl) ?_
      refine va_ti hx hb hF.1.2.2.2 hS (bd_isSetting c_1) rfl dX5_trySet_16 ?_
      refine lv_icmp_le (tgt := 23) hx hb dX5_trySet_17 (by decide) (fun c_3 => ?_) (fun c_3 => ?_)
      · skip
        refine lv_aload_n hx hb dX5_trySet_23 rfl (lv_at hl 0 rfl) ?_
        refine va_get (D := D) (ci := 3) (v := .ref (a 14)) (C := RX5) (T := TX5) (N := 9) hx hb hts in_X5 hown hG.1 hP 0 g_St_0 rfl 4 (by decide) k_2 (fun _ h9 => h9) rfl dX5_trySet_24 ?_
        refine lv_iload_n hx hb dX5_trySet_27 rfl (lv_at hl 1 rfl) ?_
        refine va_iald hx hb hG.1 hP 14 0 (n := 3) (f := (sS st)) g_St_14 rfl (bd_isSetting c_1) dX5_trySet_28 ?_
        refine lv_istore_n (lv' := [(3, .int ((sS st) x1.toNatClampNeg)), (0, .ref (a 0)), (1, .int x1), (2, .int x2)]) hx hb dX5_trySet_29 rfl hl (by decide) rfl (fun ls hl => ?_)
        refine lv_aload_n hx hb dX5_trySet_30 rfl (lv_at hl 1 rfl) ?_
        refine va_get (D := D) (ci := 3) (v := .ref (a 14)) (C := RX5) (T := TX5) (N := 9) hx hb hts in_X5 hown hG.1 hP 0 g_St_0 rfl 4 (by decide) k_2 (fun _ h9 => h9) rfl dX5_trySet_31 ?_
        refine lv_iload_n hx hb dX5_trySet_34 rfl (lv_at hl 2 rfl) ?_
        refine lv_iload_n hx hb dX5_trySet_35 rfl (lv_at hl 3 rfl) ?_
        refine va_iast hx hb hG.1 hP hD hS 14 0 (n := 3) (f := (sS st)) g_St_14 rfl (bd_isSetting c_1) dX5_trySet_36 (fun H locs hP hD hS => ?_)
        have hP : va_P D vwCl (wSt cy a (sS' st (upd (sS st) x1.toNatClampNeg x2))) H := va_P_eq hP s_St_14
        have hD : va_D A (wSt cy a (sS' st (upd (sS st) x1.toNatClampNeg x2))) := va_D_eq hD s_St_14
        refine lv_iload_n hx hb dX5_trySet_37 rfl (lv_at hl 0 rfl) ?_
        exact mu_iret hx hb hr hlocks hP hS dX5_trySet_38 (by rw [m_X5_trySet, if_neg c_1, if_neg c_2, if_pos c_3]) (by rw [m_X5_trySet, if_neg c_1, if_neg c_2, if_pos c_3])
      · skip
        refine lv_bipush (v := (-2 : Int32)) hx hb dX5_trySet_20 (by decide) ?_
        exact mu_iret hx hb hr hlocks hP hS dX5_trySet_22 (by rw [m_X5_trySet, if_neg c_1, if_neg c_2, if_neg c_3]) (by rw [m_X5_trySet, if_neg c_1, if_neg c_2, if_neg c_3])
def m_X5_startAnew_L24 : Nat → StT → Int32 → StT
  | 0, r, _ => r
  | nF + 1, r, k => if (5 : Int32) ≤ k then sO' (sX' (sK' (sT' (sS' r (va_cpy fxF (sS r) (0 : Int32).toNatClampNeg (0 : Int32).toNatClampNeg (3 : Int32).toNatClampNeg)) (0 : Int32)) (0 : Int32)) (0 : Int32)) (0 : Int32) else m_X5_startAnew_L24 nF (sA' r (upd (sA r) k.toNatClampNeg (0 : Int32))) (k + (1 : Int32))
def m_X5_startAnew (st : StT) : StT := m_X5_startAnew_L24 100 (sD' (sC' (sU' st (uN' (sU st) (0 : Int32))) (m_X0_clear (sC st))) (m_X1_clear (sD st))) (0 : Int32)
theorem hd_X5_startAnew : yX5_startAnew.cls = RX5 ∧ yX5_startAnew.cls ≠ "java/lang/invoke/MethodHandle" ∧ yX5_startAnew.cls ≠ "java/lang/invoke/VarHandle" ∧ (parseMethodDescriptor yX5_startAnew.desc).map (fun d => d.parameters.length) = some 0 := by decide +kernel
set_option maxHeartbeats 8000000 in
set_option maxRecDepth 20000 in
theorem c_X5_startAnew (l : Launch) (D : va_G) (cy : Nat → ClassId) (t : FxA) (a : Nat → Nat) (st : StT) : MVf l D cy t yX5_startAnew wsX5_startAnew ({ frames := 1, cells := 0, slots := 0, locals := 40 } : Room) (wSt cy a st) (wSt cy a (m_X5_startAnew st)) [.ref (a 0)] := by
  refine MVf.body (by decide) rfl (Nat.le_of_ble_eq_true rfl) ?_
  intro p e s m below meth c hx hb hml hr hts hown hlocks hP hG ls hl A hD hA hS hF
  have hl : lv_has ls 2 [(0, .ref (a 0))] := hl
  have hCF : CallFix p m c cX5_startAnew 2 s ([.ref (a 0)] : List Value).toArray wsX5_startAnew RX5 := ⟨hx, hb, hml, hown, hts⟩
  have in_X5 : ∀ w ∈ u_ws RX5 TX5 9, w ∈ wsX5_startAnew := fun _ h => List.mem_cons_of_mem _ (List.mem_append_left _ (List.mem_append_left _ (List.mem_append_left _ (List.mem_append_right _ h))))
  have in_X7 : ∀ w ∈ u_ws RX7 TX7 6, w ∈ wsX5_startAnew := fun _ h => List.mem_cons_of_mem _ (List.mem_append_left _ (List.mem_append_left _ (List.mem_append_right _ h)))
  have k_0 := hts (Cond.fieldLink RX5 36 "SparePool$State" "setting" "[I") (List.mem_of_getElem? (i := 5) rfl)
  have k_1 := hts (Cond.methodLink RX5 42 arraycopyName) (List.mem_of_getElem? (i := 6) rfl)
  have k_2 := hts (Cond.native arraycopyName) (List.mem_of_getElem? (i := 7) rfl)
  have k_3 := hts (Cond.static arraycopyName) (List.mem_of_getElem? (i := 8) rfl)
  have k_4 := hts (Cond.initialized "java/lang/System") (List.mem_of_getElem? (i := 9) rfl)
  have k_5 := hts (Cond.fieldLink RX5 56 "SparePool$State" "today" "I") (List.mem_of_getElem? (i := 10) rfl)
  have k_6 := hts (Cond.fieldLink RX5 59 "SparePool$State" "takenSoFar" "I") (List.mem_of_getElem? (i := 11) rfl)
  have k_7 := hts (Cond.fieldLink RX5 62 "SparePool$State" "exchangesSoFar" "I") (List.mem_of_getElem? (i := 12) rfl)
  have k_8 := hts (Cond.fieldLink RX5 65 "SparePool$State" "paidOutside" "I") (List.mem_of_getElem? (i := 13) rfl)
  have k_9 := hts (Cond.fieldLink RX5 32 "SparePool$State" "account" "[I") (List.mem_of_getElem? (i := 4) rfl)
  have k_10 := hts (Cond.fieldLink RX5 12 "SparePool$State" "units" "LSparePool$Units;") (List.mem_of_getElem? (i := 1) rfl)
  have k_11 := hts (Cond.fieldLink RX5 21 "SparePool$State" "cores" "LSparePool$Cores;") (List.mem_of_getElem? (i := 2) rfl)
  have k_12 := hts (Cond.initialized RX0) (List.mem_of_getElem? (i := 15) rfl)
  have k_13 := hts (Cond.instanceMethod yX0_clear) (List.mem_of_getElem? (i := 14) rfl)
  have k_14 := hts (Cond.selects RX0 yX0_clear yX0_clear) (List.mem_of_getElem? (i := 16) rfl)
  have k_15 := hts (Cond.fieldLink RX5 28 "SparePool$State" "debts" "LSparePool$Debts;") (List.mem_of_getElem? (i := 3) rfl)
  have k_16 := hts (Cond.initialized RX1) (List.mem_of_getElem? (i := 20) rfl)
  have k_17 := hts (Cond.instanceMethod yX1_clear) (List.mem_of_getElem? (i := 19) rfl)
  have k_18 := hts (Cond.selects RX1 yX1_clear yX1_clear) (List.mem_of_getElem? (i := 21) rfl)
  have hP : va_P D vwCl (wSt cy a st) s.heap := hP
  have L_24 : ∀ (nF : Nat) (r : StT) (k : Int32), 0 ≤ k.toInt → ((5 : Int32).toInt - k.toInt).toNat < nF → m_X5_startAnew_L24 nF r k = (m_X5_startAnew st) → ∀ (H : Heap) (locs : List Loc), va_P D vwCl (wSt cy a r) H → va_D A (wSt cy a r) → va_S A s.heap H locs → ∀ ls : Array Slot, lv_has ls 2 [(0, .ref (a 0)), (1, .int k)] → W p l e ({ frames := 1, cells := 0, slots := 0, locals := 40 } : Room) s m ([.ref (a 0)] : List Value).toArray below meth c H locs 0 0 (MQ below (va_Qv (fun (_ : Unit) => True) (fun _ t => va_P D vwCl (wSt cy a (m_X5_startAnew st)) t.heap) A) ([.ref (a 0)] : List Value).toArray s 0 0 A) (F0 m 24 ls []) := by
    intro nF
    induction nF with
    | zero => intro r k h0 hm; exact absurd hm (Nat.not_lt_zero _)
    | succ nF ih =>
      intro r k h0 hm hQ H locs hP hD hS ls hl
      refine lv_iload_n hx hb dX5_startAnew_24 rfl (lv_at hl 1 rfl) ?_
      refine lv_iconst (v := (5 : Int32)) hx hb dX5_startAnew_25 (by decide) ?_
      refine lv_icmp_ge (tgt := 42) hx hb dX5_startAnew_26 (by decide) (fun c_1 => ?_) (fun c_1 => ?_)
      · skip
        refine va_getsN hx hb hF.1.1 hS hown (va_Nw.use rfl (nw_X5_39 hG.2)) (fun _ h9 => h9) dX5_startAnew_42 ?_
        refine lv_iconst (v := (0 : Int32)) hx hb dX5_startAnew_45 (by decide) ?_
        refine lv_aload_n hx hb dX5_startAnew_46 rfl (lv_at hl 0 rfl) ?_
        refine va_get (D := D) (ci := 3) (v := .ref (a 14)) (C := RX5) (T := TX5) (N := 9) hx hb hts in_X5 hown hG.1 hP 0 g_St_0 rfl 4 (by decide) k_0 (fun _ h9 => h9) rfl dX5_startAnew_47 ?_
        refine lv_iconst (v := (0 : Int32)) hx hb dX5_startAnew_50 (by decide) ?_
        refine lv_iconst (v := (3 : Int32)) hx hb dX5_startAnew_51 (by decide) ?_
        refine fx_copy hx hb (hml.trans hl.1.symm) hown k_1 k_2 k_3 k_4 hG.1 hP hD hS hF.1.2.2.1 14 0 (g := (sS r)) g_St_14 rfl (by decide) (by decide) (by decide) (by decide) (by decide) (Nat.le_of_ble_eq_true rfl) (Nat.le_of_ble_eq_true rfl) dX5_startAnew_52 (fun H locs hP hD hS => ?_)
        have hP : va_P D vwCl (wSt cy a (sS' r (va_cpy fxF (sS r) (0 : Int32).toNatClampNeg (0 : Int32).toNatClampNeg (3 : Int32).toNatClampNeg))) H := va_P_eq hP s_St_14
        have hD : va_D A (wSt cy a (sS' r (va_cpy fxF (sS r) (0 : Int32).toNatClampNeg (0 : Int32).toNatClampNeg (3 : Int32).toNatClampNeg))) := va_D_eq hD s_St_14
        refine lv_aload_n hx hb dX5_startAnew_55 rfl (lv_at hl 0 rfl) ?_
        refine lv_iconst (v := (0 : Int32)) hx hb dX5_startAnew_56 (by decide) ?_
        refine va_put (D := D) (ci := 3) (v := .int (0 : Int32)) (ty := .int) (C := RX5) (T := TX5) (N := 9) hx hb hts in_X5 tyX5 tyX5_ok nmX5 hown hG.1 hP hD hS 0 g_St_0 rfl 5 (by decide) k_5 (fun _ h9 => h9) rfl (by decide +kernel) rfl rfl (Nat.le_of_ble_eq_true rfl) dX5_startAnew_57 (fun H locs hP hD hS => ?_)
        have hP : va_P D vwCl (wSt cy a (sT' (sS' r (va_cpy fxF (sS r) (0 : Int32).toNatClampNeg (0 : Int32).toNatClampNeg (3 : Int32).toNatClampNeg)) (0 : Int32))) H := va_P_eq hP s_St_0_5
        have hD : va_D A (wSt cy a (sT' (sS' r (va_cpy fxF (sS r) (0 : Int32).toNatClampNeg (0 : Int32).toNatClampNeg (3 : Int32).toNatClampNeg)) (0 : Int32))) := va_D_eq hD s_St_0_5
        refine lv_aload_n hx hb dX5_startAnew_60 rfl (lv_at hl 0 rfl) ?_
        refine lv_iconst (v := (0 : Int32)) hx hb dX5_startAnew_61 (by decide) ?_
        refine va_put (D := D) (ci := 3) (v := .int (0 : Int32)) (ty := .int) (C := RX5) (T := TX5) (N := 9) hx hb hts in_X5 tyX5 tyX5_ok nmX5 hown hG.1 hP hD hS 0 g_St_0 rfl 6 (by decide) k_6 (fun _ h9 => h9) rfl (by decide +kernel) rfl rfl (Nat.le_of_ble_eq_true rfl) dX5_startAnew_62 (fun H locs hP hD hS => ?_)
        have hP : va_P D vwCl (wSt cy a (sK' (sT' (sS' r (va_cpy fxF (sS r) (0 : Int32).toNatClampNeg (0 : Int32).toNatClampNeg (3 : Int32).toNatClampNeg)) (0 : Int32)) (0 : Int32))) H := va_P_eq hP s_St_0_6
        have hD : va_D A (wSt cy a (sK' (sT' (sS' r (va_cpy fxF (sS r) (0 : Int32).toNatClampNeg (0 : Int32).toNatClampNeg (3 : Int32).toNatClampNeg)) (0 : Int32)) (0 : Int32))) := va_D_eq hD s_St_0_6
        refine lv_aload_n hx hb dX5_startAnew_65 rfl (lv_at hl 0 rfl) ?_
        refine lv_iconst (v := (0 : Int32)) hx hb dX5_startAnew_66 (by decide) ?_
        refine va_put (D := D) (ci := 3) (v := .int (0 : Int32)) (ty := .int) (C := RX5) (T := TX5) (N := 9) hx hb hts in_X5 tyX5 tyX5_ok nmX5 hown hG.1 hP hD hS 0 g_St_0 rfl 7 (by decide) k_7 (fun _ h9 => h9) rfl (by decide +kernel) rfl rfl (Nat.le_of_ble_eq_true rfl) dX5_startAnew_67 (fun H locs hP hD hS => ?_)
        have hP : va_P D vwCl (wSt cy a (sX' (sK' (sT' (sS' r (va_cpy fxF (sS r) (0 : Int32).toNatClampNeg (0 : Int32).toNatClampNeg (3 : Int32).toNatClampNeg)) (0 : Int32)) (0 : Int32)) (0 : Int32))) H := va_P_eq hP s_St_0_7
        have hD : va_D A (wSt cy a (sX' (sK' (sT' (sS' r (va_cpy fxF (sS r) (0 : Int32).toNatClampNeg (0 : Int32).toNatClampNeg (3 : Int32).toNatClampNeg)) (0 : Int32)) (0 : Int32)) (0 : Int32))) := va_D_eq hD s_St_0_7
        refine lv_aload_n hx hb dX5_startAnew_70 rfl (lv_at hl 0 rfl) ?_
        refine lv_iconst (v := (0 : Int32)) hx hb dX5_startAnew_71 (by decide) ?_
        refine va_put (D := D) (ci := 3) (v := .int (0 : Int32)) (ty := .int) (C := RX5) (T := TX5) (N := 9) hx hb hts in_X5 tyX5 tyX5_ok nmX5 hown hG.1 hP hD hS 0 g_St_0 rfl 8 (by decide) k_8 (fun _ h9 => h9) rfl (by decide +kernel) rfl rfl (Nat.le_of_ble_eq_true rfl) dX5_startAnew_72 (fun H locs hP hD hS => ?_)
        have hP : va_P D vwCl (wSt cy a (sO' (sX' (sK' (sT' (sS' r (va_cpy fxF (sS r) (0 : Int32).toNatClampNeg (0 : Int32).toNatClampNeg (3 : Int32).toNatClampNeg)) (0 : Int32)) (0 : Int32)) (0 : Int32)) (0 : Int32))) H := va_P_eq hP s_St_0_8
        have hD : va_D A (wSt cy a (sO' (sX' (sK' (sT' (sS' r (va_cpy fxF (sS r) (0 : Int32).toNatClampNeg (0 : Int32).toNatClampNeg (3 : Int32).toNatClampNeg)) (0 : Int32)) (0 : Int32)) (0 : Int32)) (0 : Int32))) := va_D_eq hD s_St_0_8
        exact mu_vret hx hb hr hlocks hP hS dX5_startAnew_75 (by rw [← hQ, m_X5_startAnew_L24, if_pos c_1])
      · skip
        refine lv_aload_n hx hb dX5_startAnew_29 rfl (lv_at hl 0 rfl) ?_
        refine va_get (D := D) (ci := 3) (v := .ref (a 13)) (C := RX5) (T := TX5) (N := 9) hx hb hts in_X5 hown hG.1 hP 0 g_St_0 rfl 3 (by decide) k_9 (fun _ h9 => h9) rfl dX5_startAnew_30 ?_
        refine lv_iload_n hx hb dX5_startAnew_33 rfl (lv_at hl 1 rfl) ?_
        refine lv_iconst (v := (0 : Int32)) hx hb dX5_startAnew_34 (by decide) ?_
        refine va_iast hx hb hG.1 hP hD hS 13 0 (n := 5) (f := (sA r)) g_St_13 rfl (bd_loop h0 c_1 ((by decide))) dX5_startAnew_35 (fun H locs hP hD hS => ?_)
        have hP : va_P D vwCl (wSt cy a (sA' r (upd (sA r) k.toNatClampNeg (0 : Int32)))) H := va_P_eq hP s_St_13
        have hD : va_D A (wSt cy a (sA' r (upd (sA r) k.toNatClampNeg (0 : Int32)))) := va_D_eq hD s_St_13
        refine lv_iinc (v := (k + (1 : Int32))) (lv' := [(1, .int (k + (1 : Int32))), (0, .ref (a 0))]) hx hb dX5_startAnew_36 hl (k := 1) rfl rfl (by decide) rfl (fun ls hl => ?_)
        refine lv_goto (tgt := 24) hx hb dX5_startAnew_39 (by decide) ?_
        exact ih  (sA' r (upd (sA r) k.toNatClampNeg (0 : Int32))) (k + (1 : Int32)) (lp_up h0 c_1) (lp_dec h0 c_1 hm) (by rw [← hQ, m_X5_startAnew_L24, if_neg c_1]) H locs hP hD hS ls (lv_sub hl [1, 0] rfl)
  refine lv_aload_n hx hb dX5_startAnew_0 rfl (lv_at hl 0 rfl) ?_
  refine va_get (D := D) (ci := 3) (v := .ref (a 1)) (C := RX5) (T := TX5) (N := 9) hx hb hts in_X5 hown hG.1 hP 0 g_St_0 rfl 0 (by decide) k_10 (fun _ h9 => h9) rfl dX5_startAnew_1 ?_
  refine lv_iconst (v := (0 : Int32)) hx hb dX5_startAnew_4 (by decide) ?_
  refine va_putN (D := D) (ci := 5) (v := .int (0 : Int32)) (ty := .int) (C := RX7) (T := TX7) (N := 6) hx hb hts in_X7 tyX7 tyX7_ok nmX7 hown hG.1 hP hD hS 1 g_St_1 rfl 5 (by decide) (va_Nw.use rfl (nw_X5_48 hG.2)) (fun _ h9 => h9) rfl (by decide +kernel) rfl rfl (Nat.le_of_ble_eq_true rfl) dX5_startAnew_5 (fun H locs hP hD hS => ?_)
  have hP : va_P D vwCl (wSt cy a (sU' st (uN' (sU st) (0 : Int32)))) H := va_P_eq hP s_St_1_5
  have hD : va_D A (wSt cy a (sU' st (uN' (sU st) (0 : Int32)))) := va_D_eq hD s_St_1_5
  refine lv_aload_n hx hb dX5_startAnew_8 rfl (lv_at hl 0 rfl) ?_
  refine va_get (D := D) (ci := 3) (v := .ref (a 7)) (C := RX5) (T := TX5) (N := 9) hx hb hts in_X5 hown hG.1 hP 0 g_St_0 rfl 1 (by decide) k_11 (fun _ h9 => h9) rfl dX5_startAnew_9 ?_
  refine mvVN (A0 := A) (wc := (wCo cy (a 7) (a 8) (a 9) (a 10) (sC st))) (As := []) (rest := []) (c_X0_clear l D cy (a 7) (a 8) (a 9) (a 10) (sC st)) hCF gX5_startAnew_X0_clear_n52 (nw_X5_52 hG.2) k_12 k_13 k_14 rfl hd_X0_clear ⟨rfl, rfl, Nat.le_of_ble_eq_true rfl, Nat.le_of_ble_eq_true rfl⟩ hG hP hD hS hA [7, 8, 9, 10] rfl c_St_Co h_Co (ci := 0) rfl rfl g_Co_0 rfl hl.1 rfl (Nat.le_of_ble_eq_true rfl) dX5_startAnew_12 ⟨Nat.le_refl _, Nat.le_refl _⟩ (fun H locs hP hD hS => ?_)
  have hP : va_P D vwCl (wSt cy a (sC' (sU' st (uN' (sU st) (0 : Int32))) (m_X0_clear (sC st)))) H := va_P_eq hP r_St_Co
  have hD : va_D A (wSt cy a (sC' (sU' st (uN' (sU st) (0 : Int32))) (m_X0_clear (sC st)))) := va_D_eq hD r_St_Co
  refine lv_aload_n hx hb dX5_startAnew_15 rfl (lv_at hl 0 rfl) ?_
  refine va_get (D := D) (ci := 3) (v := .ref (a 11)) (C := RX5) (T := TX5) (N := 9) hx hb hts in_X5 hown hG.1 hP 0 g_St_0 rfl 2 (by decide) k_15 (fun _ h9 => h9) rfl dX5_startAnew_16 ?_
  refine mvVN (A0 := A) (wc := (wDe cy (a 11) (a 12) (sD st))) (As := []) (rest := []) (c_X1_clear l D cy (a 11) (a 12) (sD st)) hCF gX5_startAnew_X1_clear_n55 (nw_X5_55 hG.2) k_16 k_17 k_18 rfl hd_X1_clear ⟨rfl, rfl, Nat.le_of_ble_eq_true rfl, Nat.le_of_ble_eq_true rfl⟩ hG hP hD hS hA [11, 12] rfl c_St_De h_De (ci := 1) rfl rfl g_De_0 rfl hl.1 rfl (Nat.le_of_ble_eq_true rfl) dX5_startAnew_19 ⟨Nat.le_refl _, Nat.le_refl _⟩ (fun H locs hP hD hS => ?_)
  have hP : va_P D vwCl (wSt cy a (sD' (sC' (sU' st (uN' (sU st) (0 : Int32))) (m_X0_clear (sC st))) (m_X1_clear (sD st)))) H := va_P_eq hP r_St_De
  have hD : va_D A (wSt cy a (sD' (sC' (sU' st (uN' (sU st) (0 : Int32))) (m_X0_clear (sC st))) (m_X1_clear (sD st)))) := va_D_eq hD r_St_De
  refine lv_iconst (v := (0 : Int32)) hx hb dX5_startAnew_22 (by decide) ?_
  refine lv_istore_n (lv' := [(1, .int (0 : Int32)), (0, .ref (a 0))]) hx hb dX5_startAnew_23 rfl hl (by decide) rfl (fun ls hl => ?_)
  exact L_24 100 (sD' (sC' (sU' st (uN' (sU st) (0 : Int32))) (m_X0_clear (sC st))) (m_X1_clear (sD st))) (0 : Int32) (by decide) (lp_init (M := 5) (by decide) (by decide)) (by rw [m_X5_startAnew]) H locs hP hD hS ls (lv_sub hl [1, 0] rfl)
