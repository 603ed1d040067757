def m_X5_lateFees (st : StT) (x1 : Int32) (x2 : Int32) : Int32 := ((sS st) (0 : Int32).toNatClampNeg) * (if (0 : Int32) < (x2 - x1) then x2 - x1 else (0 : Int32))
theorem hd_X5_lateFees : yX5_lateFees.cls = RX5 ∧ yX5_lateFees.cls ≠ "java/lang/invoke/MethodHandle" ∧ yX5_lateFees.cls ≠ "java/lang/invoke/VarHandle" ∧ (parseMethodDescriptor yX5_lateFees.desc).map (fun d => d.parameters.length) = some 2 := by decide +kernel
set_option maxHeartbeats 8000000 in
set_option maxRecDepth 20000 in
theorem c_X5_lateFees (l : Launch) (D : va_G) (cy : Nat → ClassId) (a : Nat → Nat) (st : StT) (x1 : Int32) (x2 : Int32) : RO l D cy yX5_lateFees wsX5_lateFees ({ frames := 1, cells := 0, slots := 0, locals := 21 } : Room) (wSt cy a st) [.ref (a 0), .int x1, .int x2] (m_X5_lateFees st x1 x2) := by
  refine RO.body (by decide) rfl (Nat.le_of_ble_eq_true rfl) ?_
  intro p e s m below meth c hx hb hml hr hts hown hlocks hP hG ls hl
  have hl : lv_has ls 3 [(0, .ref (a 0)), (1, .int x1), (2, .int x2)] := hl
  have hCF : CallFix p m c cX5_lateFees 3 s ([.ref (a 0), .int x1, .int x2] : List Value).toArray wsX5_lateFees RX5 := ⟨hx, hb, hml, hown, hts⟩
  have in_X5 : ∀ w ∈ u_ws RX5 TX5 9, w ∈ wsX5_lateFees := fun _ h => List.mem_cons_of_mem _ (List.mem_append_right _ h)
  have k_0 := hts (Cond.fieldLink RX5 36 "SparePool$State" "setting" "[I") (List.mem_of_getElem? (i := 1) rfl)
  have k_1 := hts (Cond.methodLink RX5 183 Lib.Math.max.name) (List.mem_of_getElem? (i := 2) rfl)
  have k_2 := hts (Cond.static Lib.Math.max.name) (List.mem_of_getElem? (i := 3) rfl)
  have k_3 := hts (Cond.initialized "java/lang/Math") (List.mem_of_getElem? (i := 4) rfl)
  have k_4 := hts (Cond.code Lib.Math.max.name Lib.Math.max.code 2 (some .int)) (List.mem_of_getElem? (i := 5) rfl)
  refine lv_aload_n hx hb dX5_lateFees_0 rfl (lv_at hl 0 rfl) ?_
  refine va_get (D := D) (ci := 3) (v := .ref (a 14)) (C := RX5) (T := TX5) (N := 9) hx hb hts in_X5 hown hG.1 hP 0 g_St_0 rfl 4 (by decide) k_0 (fun _ h9 => h9) rfl dX5_lateFees_1 ?_
  refine lv_iconst (v := (0 : Int32)) hx hb dX5_lateFees_4 (by decide) ?_
  refine va_iald hx hb hG.1 hP 14 0 (n := 3) (f := (sS st)) g_St_14 rfl (bd_of (by decide) (by decide)) dX5_lateFees_5 ?_
  refine lv_iconst (v := (0 : Int32)) hx hb dX5_lateFees_6 (by decide) ?_
  refine lv_iload_n hx hb dX5_lateFees_7 rfl (lv_at hl 2 rfl) ?_
  refine lv_iload_n hx hb dX5_lateFees_8 rfl (lv_at hl 1 rfl) ?_
  refine lv_isub hx hb dX5_lateFees_9 ?_
  refine va_mmax hx hb (hml.trans hl.1.symm) hown k_1 k_2 k_3 k_4 (Nat.le_of_ble_eq_true rfl) (Nat.le_of_ble_eq_true rfl) (Nat.le_refl _) (Nat.le_refl _) dX5_lateFees_10 ?_
  refine lv_imul hx hb dX5_lateFees_13 ?_
  exact ro_iret hx hb hr hlocks dX5_lateFees_14 (by rw [m_X5_lateFees])
def m_X5_priceForCore (st : StT) (x1 : Int32) : Int32 := ((sS st) (1 : Int32).toNatClampNeg) + (((sS st) (2 : Int32).toNatClampNeg) * (m_X7_missingParts (sU st) x1))
theorem hd_X5_priceForCore : yX5_priceForCore.cls = RX5 ∧ yX5_priceForCore.cls ≠ "java/lang/invoke/MethodHandle" ∧ yX5_priceForCore.cls ≠ "java/lang/invoke/VarHandle" ∧ (parseMethodDescriptor yX5_priceForCore.desc).map (fun d => d.parameters.length) = some 1 := by decide +kernel
set_option maxHeartbeats 8000000 in
set_option maxRecDepth 20000 in
theorem c_X5_priceForCore (l : Launch) (D : va_G) (cy : Nat → ClassId) (a : Nat → Nat) (st : StT) (x1 : Int32) (hOK : stOK st) : RO l D cy yX5_priceForCore wsX5_priceForCore ({ frames := 2, cells := 0, slots := 0, locals := 42 } : Room) (wSt cy a st) [.ref (a 0), .int x1] (m_X5_priceForCore st x1) := by
  refine RO.body (by decide) rfl (Nat.le_of_ble_eq_true rfl) ?_
  intro p e s m below meth c hx hb hml hr hts hown hlocks hP hG ls hl
  have hl : lv_has ls 2 [(0, .ref (a 0)), (1, .int x1)] := hl
  have hCF : CallFix p m c cX5_priceForCore 2 s ([.ref (a 0), .int x1] : List Value).toArray wsX5_priceForCore RX5 := ⟨hx, hb, hml, hown, hts⟩
  have in_X5 : ∀ w ∈ u_ws RX5 TX5 9, w ∈ wsX5_priceForCore := fun _ h => List.mem_cons_of_mem _ (List.mem_append_left _ (List.mem_append_right _ h))
  have k_0 := hts (Cond.fieldLink RX5 36 "SparePool$State" "setting" "[I") (List.mem_of_getElem? (i := 1) rfl)
  have k_1 := hts (Cond.fieldLink RX5 12 "SparePool$State" "units" "LSparePool$Units;") (List.mem_of_getElem? (i := 2) rfl)
  have k_2 := hts (Cond.initialized RX7) (List.mem_of_getElem? (i := 4) rfl)
  have k_3 := hts (Cond.instanceMethod yX7_missingParts) (List.mem_of_getElem? (i := 3) rfl)
  have k_4 := hts (Cond.selects RX7 yX7_missingParts yX7_missingParts) (List.mem_of_getElem? (i := 5) rfl)
  refine lv_aload_n hx hb dX5_priceForCore_0 rfl (lv_at hl 0 rfl) ?_
  refine va_get (D := D) (ci := 3) (v := .ref (a 14)) (C := RX5) (T := TX5) (N := 9) hx hb hts in_X5 hown hG.1 hP 0 g_St_0 rfl 4 (by decide) k_0 (fun _ h9 => h9) rfl dX5_priceForCore_1 ?_
  refine lv_iconst (v := (1 : Int32)) hx hb dX5_priceForCore_4 (by decide) ?_
  refine va_iald hx hb hG.1 hP 14 0 (n := 3) (f := (sS st)) g_St_14 rfl (bd_of (by decide) (by decide)) dX5_priceForCore_5 ?_
  refine lv_aload_n hx hb dX5_priceForCore_6 rfl (lv_at hl 0 rfl) ?_
  refine va_get (D := D) (ci := 3) (v := .ref (a 14)) (C := RX5) (T := TX5) (N := 9) hx hb hts in_X5 hown hG.1 hP 0 g_St_0 rfl 4 (by decide) k_0 (fun _ h9 => h9) rfl dX5_priceForCore_7 ?_
  refine lv_iconst (v := (2 : Int32)) hx hb dX5_priceForCore_10 (by decide) ?_
  refine va_iald hx hb hG.1 hP 14 0 (n := 3) (f := (sS st)) g_St_14 rfl (bd_of (by decide) (by decide)) dX5_priceForCore_11 ?_
  refine lv_aload_n hx hb dX5_priceForCore_12 rfl (lv_at hl 0 rfl) ?_
  refine va_get (D := D) (ci := 3) (v := .ref (a 1)) (C := RX5) (T := TX5) (N := 9) hx hb hts in_X5 hown hG.1 hP 0 g_St_0 rfl 0 (by decide) k_1 (fun _ h9 => h9) rfl dX5_priceForCore_13 ?_
  refine lv_iload_n hx hb dX5_priceForCore_16 rfl (lv_at hl 1 rfl) ?_
  refine roVN (wc := (wUn cy (a 1) (a 2) (a 3) (a 4) (a 5) (a 6) (sU st))) (As := [.int x1]) (rest := [.int ((sS st) (2 : Int32).toNatClampNeg), .int ((sS st) (1 : Int32).toNatClampNeg)]) (c_X7_missingParts l D cy (a 1) (a 2) (a 3) (a 4) (a 5) (a 6) (sU st) x1 hOK.1) hCF gX5_priceForCore_X7_missingParts_n180 (nw_X5_180 hG.2) k_2 k_3 k_4 rfl hd_X7_missingParts ⟨rfl, rfl, Nat.le_of_ble_eq_true rfl, Nat.le_of_ble_eq_true rfl⟩ hG (hP.sub (ws' := (wUn cy (a 1) (a 2) (a 3) (a 4) (a 5) (a 6) (sU st))) [1, 2, 3, 4, 5, 6] u_St_Un) (ci := 5) rfl rfl g_Un_0 rfl hl.1 rfl (Nat.le_of_ble_eq_true rfl) dX5_priceForCore_17 ⟨Nat.le_refl _, Nat.le_refl _⟩ ?_
  refine lv_imul hx hb dX5_priceForCore_20 ?_
  refine lv_iadd hx hb dX5_priceForCore_21 ?_
  exact ro_iret hx hb hr hlocks dX5_priceForCore_22 (by rw [m_X5_priceForCore])
def m_X5_feesFor (st : StT) (x1 : Int32) (x2 : Int32) : Int32 := if (m_X7_has (sU st) x1) = (0 : Int32) then (0 : Int32) else if (m_X7_isFree (sU st) x1) = (0 : Int32) then m_X5_lateFees st ((uD (sU st)) x1.toNatClampNeg) ((sT st) + x2) else (0 : Int32)
theorem hd_X5_feesFor : yX5_feesFor.cls = RX5 ∧ yX5_feesFor.cls ≠ "java/lang/invoke/MethodHandle" ∧ yX5_feesFor.cls ≠ "java/lang/invoke/VarHandle" ∧ (parseMethodDescriptor yX5_feesFor.desc).map (fun d => d.parameters.length) = some 2 := by decide +kernel
set_option maxHeartbeats 8000000 in
set_option maxRecDepth 20000 in
theorem c_X5_feesFor (l : Launch) (D : va_G) (cy : Nat → ClassId) (a : Nat → Nat) (st : StT) (x1 : Int32) (x2 : Int32) (hOK : stOK st) : RO l D cy yX5_feesFor wsX5_feesFor ({ frames := 2, cells := 0, slots := 0, locals := 43 } : Room) (wSt cy a st) [.ref (a 0), .int x1, .int x2] (m_X5_feesFor st x1 x2) := by
  refine RO.body (by decide) rfl (Nat.le_of_ble_eq_true rfl) ?_
  intro p e s m below meth c hx hb hml hr hts hown hlocks hP hG ls hl
  have hl : lv_has ls 3 [(0, .ref (a 0)), (1, .int x1), (2, .int x2)] := hl
  have hCF : CallFix p m c cX5_feesFor 3 s ([.ref (a 0), .int x1, .int x2] : List Value).toArray wsX5_feesFor RX5 := ⟨hx, hb, hml, hown, hts⟩
  have in_X5 : ∀ w ∈ u_ws RX5 TX5 9, w ∈ wsX5_feesFor := fun _ h => List.mem_cons_of_mem _ (List.mem_append_left _ (List.mem_append_right _ h))
  have in_X7 : ∀ w ∈ u_ws RX7 TX7 6, w ∈ wsX5_feesFor := fun _ h => List.mem_cons_of_mem _ (List.mem_append_right _ h)
  have k_0 := hts (Cond.fieldLink RX5 12 "SparePool$State" "units" "LSparePool$Units;") (List.mem_of_getElem? (i := 1) rfl)
  have k_1 := hts (Cond.initialized RX7) (List.mem_of_getElem? (i := 4) rfl)
  have k_2 := hts (Cond.instanceMethod yX7_has) (List.mem_of_getElem? (i := 3) rfl)
  have k_3 := hts (Cond.selects RX7 yX7_has yX7_has) (List.mem_of_getElem? (i := 5) rfl)
  have k_4 := hts (Cond.instanceMethod yX7_isFree) (List.mem_of_getElem? (i := 8) rfl)
  have k_5 := hts (Cond.selects RX7 yX7_isFree yX7_isFree) (List.mem_of_getElem? (i := 9) rfl)
  have k_6 := hts (Cond.fieldLink RX5 56 "SparePool$State" "today" "I") (List.mem_of_getElem? (i := 2) rfl)
  refine lv_aload_n hx hb dX5_feesFor_0 rfl (lv_at hl 0 rfl) ?_
  refine va_get (D := D) (ci := 3) (v := .ref (a 1)) (C := RX5) (T := TX5) (N := 9) hx hb hts in_X5 hown hG.1 hP 0 g_St_0 rfl 0 (by decide) k_0 (fun _ h9 => h9) rfl dX5_feesFor_1 ?_
  refine lv_iload_n hx hb dX5_feesFor_4 rfl (lv_at hl 1 rfl) ?_
  refine roVN (wc := (wUn cy (a 1) (a 2) (a 3) (a 4) (a 5) (a 6) (sU st))) (As := [.int x1]) (rest := []) (c_X7_has l D cy (a 1) (a 2) (a 3) (a 4) (a 5) (a 6) (sU st) x1 hOK.1) hCF gX5_feesFor_X7_has_n89 (nw_X5_89 hG.2) k_1 k_2 k_3 rfl hd_X7_has ⟨rfl, rfl, Nat.le_of_ble_eq_true rfl, Nat.le_of_ble_eq_true rfl⟩ hG (hP.sub (ws' := (wUn cy (a 1) (a 2) (a 3) (a 4) (a 5) (a 6) (sU st))) [1, 2, 3, 4, 5, 6] u_St_Un) (ci := 5) rfl rfl g_Un_0 rfl hl.1 rfl (Nat.le_of_ble_eq_true rfl) dX5_feesFor_5 ⟨Nat.le_refl _, Nat.le_refl _⟩ ?_
  refine lv_if_eq (tgt := 22) hx hb dX5_feesFor_8 (by decide) (fun c_1 => ?_) (fun c_1 => ?_)
  · skip
    refine lv_iconst (v := (0 : Int32)) hx hb dX5_feesFor_22 (by decide) ?_
    refine lv_goto (tgt := 45) hx hb dX5_feesFor_23 (by decide) ?_
    exact ro_iret hx hb hr hlocks dX5_feesFor_45 (by rw [m_X5_feesFor, if_pos c_1])
  · skip
    refine lv_aload_n hx hb dX5_feesFor_11 rfl (lv_at hl 0 rfl) ?_
    refine va_get (D := D) (ci := 3) (v := .ref (a 1)) (C := RX5) (T := TX5) (N := 9) hx hb hts in_X5 hown hG.1 hP 0 g_St_0 rfl 0 (by decide) k_0 (fun _ h9 => h9) rfl dX5_feesFor_12 ?_
    refine lv_iload_n hx hb dX5_feesFor_15 rfl (lv_at hl 1 rfl) ?_
    refine roVN (wc := (wUn cy (a 1) (a 2) (a 3) (a 4) (a 5) (a 6) (sU st))) (As := [.int x1]) (rest := []) (c_X7_isFree l D cy (a 1) (a 2) (a 3) (a 4) (a 5) (a 6) (sU st) x1 hOK.1) hCF gX5_feesFor_X7_isFree_n95 (nw_X5_95 hG.2) k_1 k_4 k_5 rfl hd_X7_isFree ⟨rfl, rfl, Nat.le_of_ble_eq_true rfl, Nat.le_of_ble_eq_true rfl⟩ hG (hP.sub (ws' := (wUn cy (a 1) (a 2) (a 3) (a 4) (a 5) (a 6) (sU st))) [1, 2, 3, 4, 5, 6] u_St_Un) (ci := 5) rfl rfl g_Un_0 rfl hl.1 rfl (Nat.le_of_ble_eq_true rfl) dX5_feesFor_16 ⟨Nat.le_refl _, Nat.le_refl _⟩ ?_
    refine lv_if_eq (tgt := 26) hx hb dX5_feesFor_19 (by decide) (fun c_2 => ?_) (fun c_2 => ?_)
    · skip
      refine lv_aload_n hx hb dX5_feesFor_26 rfl (lv_at hl 0 rfl) ?_
      refine lv_aload_n hx hb dX5_feesFor_27 rfl (lv_at hl 0 rfl) ?_
      refine va_get (D := D) (ci := 3) (v := .ref (a 1)) (C := RX5) (T := TX5) (N := 9) hx hb hts in_X5 hown hG.1 hP 0 g_St_0 rfl 0 (by decide) k_0 (fun _ h9 => h9) rfl dX5_feesFor_28 ?_
      refine va_getN (D := D) (ci := 5) (v := .ref (a 6)) (C := RX7) (T := TX7) (N := 6) hx hb hts in_X7 hown hG.1 hP 1 g_St_1 rfl 4 (by decide) (va_Nw.use rfl (nw_X5_104 hG.2)) (fun _ h9 => h9) rfl dX5_feesFor_31 ?_
      refine lv_iload_n hx hb dX5_feesFor_34 rfl (lv_at hl 1 rfl) ?_
      refine va_iald hx hb hG.1 hP 6 0 (n := 16) (f := (uD (sU st))) g_St_6 rfl (bd_has hOK.1 c_1) dX5_feesFor_35 ?_
      refine lv_aload_n hx hb dX5_feesFor_36 rfl (lv_at hl 0 rfl) ?_
      refine va_get (D := D) (ci := 3) (v := .int (sT st)) (C := RX5) (T := TX5) (N := 9) hx hb hts in_X5 hown hG.1 hP 0 g_St_0 rfl 5 (by decide) k_6 (fun _ h9 => h9) rfl dX5_feesFor_37 ?_
      refine lv_iload_n hx hb dX5_feesFor_40 rfl (lv_at hl 2 rfl) ?_
      refine lv_iadd hx hb dX5_feesFor_41 ?_
      refine roV (wc := (wSt cy a st)) (As := [.int ((uD (sU st)) x1.toNatClampNeg), .int ((sT st) + x2)]) (rest := []) (c_X5_lateFees l D cy a st ((uD (sU st)) x1.toNatClampNeg) ((sT st) + x2)) hCF gX5_feesFor_X5_lateFees rfl hd_X5_lateFees ⟨rfl, rfl, Nat.le_of_ble_eq_true rfl, Nat.le_of_ble_eq_true rfl⟩ hG hP (ci := 3) rfl rfl g_St_0 rfl hl.1 rfl (Nat.le_of_ble_eq_true rfl) dX5_feesFor_42 ⟨Nat.le_refl _, Nat.le_refl _⟩ ?_
      exact ro_iret hx hb hr hlocks dX5_feesFor_45 (by rw [m_X5_feesFor, if_neg c_1, if_pos c_2])
    · skip
      refine lv_iconst (v := (0 : Int32)) hx hb dX5_feesFor_22 (by decide) ?_
      refine lv_goto (tgt := 45) hx hb dX5_feesFor_23 (by decide) ?_
      exact ro_iret hx hb hr hlocks dX5_feesFor_45 (by rw [m_X5_feesFor, if_neg c_1, if_neg c_2])
def m_X5_feesToPay_L5 : Nat → StT → Int32 → Int32 → Int32 → Int32 → Int32
  | 0, _, _, _, _, _ => 0
  | nF + 1, st, x1, x2, f, u => if (uN (sU st)) ≤ u then f else if ((uP (sU st)) u.toNatClampNeg) = x1 then if ((uO (sU st)) u.toNatClampNeg) = x1 then m_X5_feesToPay_L5 nF st x1 x2 ((f + (m_X5_feesFor st u x2)) - (m_X5_feesFor st u x2)) (u + (1 : Int32)) else m_X5_feesToPay_L5 nF st x1 x2 (f + (m_X5_feesFor st u x2)) (u + (1 : Int32)) else if ((uO (sU st)) u.toNatClampNeg) = x1 then m_X5_feesToPay_L5 nF st x1 x2 (f - (m_X5_feesFor st u x2)) (u + (1 : Int32)) else m_X5_feesToPay_L5 nF st x1 x2 f (u + (1 : Int32))
def m_X5_feesToPay (st : StT) (x1 : Int32) (x2 : Int32) : Int32 := m_X5_feesToPay_L5 100 st x1 x2 (0 : Int32) (0 : Int32)
theorem hd_X5_feesToPay : yX5_feesToPay.cls = RX5 ∧ yX5_feesToPay.cls ≠ "java/lang/invoke/MethodHandle" ∧ yX5_feesToPay.cls ≠ "java/lang/invoke/VarHandle" ∧ (parseMethodDescriptor yX5_feesToPay.desc).map (fun d => d.parameters.length) = some 2 := by decide +kernel
set_option maxHeartbeats 8000000 in
set_option maxRecDepth 20000 in
theorem c_X5_feesToPay (l : Launch) (D : va_G) (cy : Nat → ClassId) (a : Nat → Nat) (st : StT) (x1 : Int32) (x2 : Int32) (hOK : stOK st) : RO l D cy yX5_feesToPay wsX5_feesToPay ({ frames := 3, cells := 0, slots := 0, locals := 65 } : Room) (wSt cy a st) [.ref (a 0), .int x1, .int x2] (m_X5_feesToPay st x1 x2) := by
  refine RO.body (by decide) rfl (Nat.le_of_ble_eq_true rfl) ?_
  intro p e s m below meth c hx hb hml hr hts hown hlocks hP hG ls hl
  have hl : lv_has ls 6 [(0, .ref (a 0)), (1, .int x1), (2, .int x2)] := hl
  have hCF : CallFix p m c cX5_feesToPay 6 s ([.ref (a 0), .int x1, .int x2] : List Value).toArray wsX5_feesToPay RX5 := ⟨hx, hb, hml, hown, hts⟩
  have in_X5 : ∀ w ∈ u_ws RX5 TX5 9, w ∈ wsX5_feesToPay := fun _ h => List.mem_cons_of_mem _ (List.mem_append_left _ (List.mem_append_right _ h))
  have in_X7 : ∀ w ∈ u_ws RX7 TX7 6, w ∈ wsX5_feesToPay := fun _ h => List.mem_cons_of_mem _ (List.mem_append_right _ h)
  have k_0 := hts (Cond.fieldLink RX5 12 "SparePool$State" "units" "LSparePool$Units;") (List.mem_of_getElem? (i := 1) rfl)
  have L_5 : ∀ (nF : Nat) (f : Int32) (u : Int32), 0 ≤ u.toInt → ((uN (sU st)).toInt - u.toInt).toNat < nF → m_X5_feesToPay_L5 nF st x1 x2 f u = (m_X5_feesToPay st x1 x2) → ∀ ls : Array Slot, lv_has ls 6 [(0, .ref (a 0)), (1, .int x1), (2, .int x2), (3, .int f), (4, .int u)] → W p l e ({ frames := 3, cells := 0, slots := 0, locals := 65 } : Room) s m ([.ref (a 0), .int x1, .int x2] : List Value).toArray below meth c s.heap [] 0 0 (MQ below (vp_Si (fun v_ => v_ = (m_X5_feesToPay st x1 x2))) ([.ref (a 0), .int x1, .int x2] : List Value).toArray s 0 0 (fun _ => False)) (F0 m 5 ls []) := by
    intro nF
    induction nF with
    | zero => intro f u h0 hm; exact absurd hm (Nat.not_lt_zero _)
    | succ nF ih =>
      intro f u h0 hm hQ ls hl
      refine lv_iload hx hb dX5_feesToPay_5 (lv_at hl 4 rfl) ?_
      refine lv_aload_n hx hb dX5_feesToPay_7 rfl (lv_at hl 0 rfl) ?_
      refine va_get (D := D) (ci := 3) (v := .ref (a 1)) (C := RX5) (T := TX5) (N := 9) hx hb hts in_X5 hown hG.1 hP 0 g_St_0 rfl 0 (by decide) k_0 (fun _ h9 => h9) rfl dX5_feesToPay_8 ?_
      refine va_getN (D := D) (ci := 5) (v := .int (uN (sU st))) (C := RX7) (T := TX7) (N := 6) hx hb hts in_X7 hown hG.1 hP 1 g_St_1 rfl 5 (by decide) (va_Nw.use rfl (nw_X5_48 hG.2)) (fun _ h9 => h9) rfl dX5_feesToPay_11 ?_
      refine lv_icmp_ge (tgt := 70) hx hb dX5_feesToPay_14 (by decide) (fun c_1 => ?_) (fun c_1 => ?_)
      · skip
        refine lv_iload_n hx hb dX5_feesToPay_70 rfl (lv_at hl 3 rfl) ?_
        exact ro_iret hx hb hr hlocks dX5_feesToPay_71 (by rw [← hQ, m_X5_feesToPay_L5, if_pos c_1])
      · skip
        refine lv_aload_n hx hb dX5_feesToPay_17 rfl (lv_at hl 0 rfl) ?_
        refine lv_iload hx hb dX5_feesToPay_18 (lv_at hl 4 rfl) ?_
        refine lv_iload_n hx hb dX5_feesToPay_20 rfl (lv_at hl 2 rfl) ?_
        refine roV (wc := (wSt cy a st)) (As := [.int u, .int x2]) (rest := []) (c_X5_feesFor l D cy a st u x2 hOK) hCF gX5_feesToPay_X5_feesFor rfl hd_X5_feesFor ⟨rfl, rfl, Nat.le_of_ble_eq_true rfl, Nat.le_of_ble_eq_true rfl⟩ hG hP (ci := 3) rfl rfl g_St_0 rfl hl.1 rfl (Nat.le_of_ble_eq_true rfl) dX5_feesToPay_21 ⟨Nat.le_refl _, Nat.le_refl _⟩ ?_
        refine lv_istore (lv' := [(5, .int (m_X5_feesFor st u x2)), (0, .ref (a 0)), (1, .int x1), (2, .int x2), (3, .int f), (4, .int u)]) hx hb dX5_feesToPay_24 hl (by decide) rfl (fun ls hl => ?_)
        refine lv_aload_n hx hb dX5_feesToPay_26 rfl (lv_at hl 1 rfl) ?_
        refine va_get (D := D) (ci := 3) (v := .ref (a 1)) (C := RX5) (T := TX5) (N := 9) hx hb hts in_X5 hown hG.1 hP 0 g_St_0 rfl 0 (by decide) k_0 (fun _ h9 => h9) rfl dX5_feesToPay_27 ?_
        refine va_getN (D := D) (ci := 5) (v := .ref (a 4)) (C := RX7) (T := TX7) (N := 6) hx hb hts in_X7 hown hG.1 hP 1 g_St_1 rfl 2 (by decide) (va_Nw.use rfl (nw_X5_101 hG.2)) (fun _ h9 => h9) rfl dX5_feesToPay_30 ?_
        refine lv_iload hx hb dX5_feesToPay_33 (lv_at hl 5 rfl) ?_
        refine va_iald hx hb hG.1 hP 4 0 (n := 16) (f := (uP (sU st))) g_St_4 rfl (bd_loop h0 c_1 (hOK.1.2)) dX5_feesToPay_35 ?_
        refine lv_iload_n hx hb dX5_feesToPay_36 rfl (lv_at hl 2 rfl) ?_
        refine lv_icmp_ne (tgt := 45) hx hb dX5_feesToPay_37 (by decide) (fun c_2 => ?_) (fun c_2 => ?_)
        · skip
          refine lv_aload_n hx hb dX5_feesToPay_45 rfl (lv_at hl 1 rfl) ?_
          refine va_get (D := D) (ci := 3) (v := .ref (a 1)) (C := RX5) (T := TX5) (N := 9) hx hb hts in_X5 hown hG.1 hP 0 g_St_0 rfl 0 (by decide) k_0 (fun _ h9 => h9) rfl dX5_feesToPay_46 ?_
          refine va_getN (D := D) (ci := 5) (v := .ref (a 3)) (C := RX7) (T := TX7) (N := 6) hx hb hts in_X7 hown hG.1 hP 1 g_St_1 rfl 1 (by decide) (va_Nw.use rfl (nw_X5_98 hG.2)) (fun _ h9 => h9) rfl dX5_feesToPay_49 ?_
          refine lv_iload hx hb dX5_feesToPay_52 (lv_at hl 5 rfl) ?_
          refine va_iald hx hb hG.1 hP 3 0 (n := 16) (f := (uO (sU st))) g_St_3 rfl (bd_loop h0 c_1 (hOK.1.2)) dX5_feesToPay_54 ?_
          refine lv_iload_n hx hb dX5_feesToPay_55 rfl (lv_at hl 2 rfl) ?_
          refine lv_icmp_ne (tgt := 64) hx hb dX5_feesToPay_56 (by decide) (fun c_3 => ?_) (fun c_3 => ?_)
          · skip
            refine lv_iinc (v := (u + (1 : Int32))) (lv' := [(4, .int (u + (1 : Int32))), (5, .int (m_X5_feesFor st u x2)), (0, .ref (a 0)), (1, .int x1), (2, .int x2), (3, .int f)]) hx hb dX5_feesToPay_64 hl (k := 5) rfl rfl (by decide) rfl (fun ls hl => ?_)
            refine lv_goto (tgt := 5) hx hb dX5_feesToPay_67 (by decide) ?_
            exact ih  f (u + (1 : Int32)) (lp_up h0 c_1) (lp_dec h0 c_1 hm) (by rw [← hQ, m_X5_feesToPay_L5, if_neg c_1, if_neg c_2, if_neg c_3]) ls (lv_sub hl [2, 3, 4, 5, 0] rfl)
          · skip
            refine lv_iload_n hx hb dX5_feesToPay_59 rfl (lv_at hl 4 rfl) ?_
            refine lv_iload hx hb dX5_feesToPay_60 (lv_at hl 0 rfl) ?_
            refine lv_isub hx hb dX5_feesToPay_62 ?_
            refine lv_istore_n (lv' := [(3, .int (f - (m_X5_feesFor st u x2))), (5, .int (m_X5_feesFor st u x2)), (0, .ref (a 0)), (1, .int x1), (2, .int x2), (4, .int u)]) hx hb dX5_feesToPay_63 rfl hl (by decide) rfl (fun ls hl => ?_)
            refine lv_iinc (v := (u + (1 : Int32))) (lv' := [(4, .int (u + (1 : Int32))), (3, .int (f - (m_X5_feesFor st u x2))), (5, .int (m_X5_feesFor st u x2)), (0, .ref (a 0)), (1, .int x1), (2, .int x2)]) hx hb dX5_feesToPay_64 hl (k := 5) rfl rfl (by decide) rfl (fun ls hl => ?_)
            refine lv_goto (tgt := 5) hx hb dX5_feesToPay_67 (by decide) ?_
            exact ih  (f - (m_X5_feesFor st u x2)) (u + (1 : Int32)) (lp_up h0 c_1) (lp_dec h0 c_1 hm) (by rw [← hQ, m_X5_feesToPay_L5, if_neg c_1, if_neg c_2, if_pos c_3]) ls (lv_sub hl [3, 4, 5, 1, 0] rfl)
        · skip
          refine lv_iload_n hx hb dX5_feesToPay_40 rfl (lv_at hl 4 rfl) ?_
          refine lv_iload hx hb dX5_feesToPay_41 (lv_at hl 0 rfl) ?_
          refine lv_iadd hx hb dX5_feesToPay_43 ?_
          refine lv_istore_n (lv' := [(3, .int (f + (m_X5_feesFor st u x2))), (5, .int (m_X5_feesFor st u x2)), (0, .ref (a 0)), (1, .int x1), (2, .int x2), (4, .int u)]) hx hb dX5_feesToPay_44 rfl hl (by decide) rfl (fun ls hl => ?_)
          refine lv_aload_n hx hb dX5_feesToPay_45 rfl (lv_at hl 2 rfl) ?_
          refine va_get (D := D) (ci := 3) (v := .ref (a 1)) (C := RX5) (T := TX5) (N := 9) hx hb hts in_X5 hown hG.1 hP 0 g_St_0 rfl 0 (by decide) k_0 (fun _ h9 => h9) rfl dX5_feesToPay_46 ?_
          refine va_getN (D := D) (ci := 5) (v := .ref (a 3)) (C := RX7) (T := TX7) (N := 6) hx hb hts in_X7 hown hG.1 hP 1 g_St_1 rfl 1 (by decide) (va_Nw.use rfl (nw_X5_98 hG.2)) (fun _ h9 => h9) rfl dX5_feesToPay_49 ?_
          refine lv_iload hx hb dX5_feesToPay_52 (lv_at hl 5 rfl) ?_
          refine va_iald hx hb hG.1 hP 3 0 (n := 16) (f := (uO (sU st))) g_St_3 rfl (bd_loop h0 c_1 (hOK.1.2)) dX5_feesToPay_54 ?_
          refine lv_iload_n hx hb dX5_feesToPay_55 rfl (lv_at hl 3 rfl) ?_
          refine lv_icmp_ne (tgt := 64) hx hb dX5_feesToPay_56 (by decide) (fun c_4 => ?_) (fun c_4 => ?_)
          · skip
            refine lv_iinc (v := (u + (1 : Int32))) (lv' := [(4, .int (u + (1 : Int32))), (3, .int (f + (m_X5_feesFor st u x2))), (5, .int (m_X5_feesFor st u x2)), (0, .ref (a 0)), (1, .int x1), (2, .int x2)]) hx hb dX5_feesToPay_64 hl (k := 5) rfl rfl (by decide) rfl (fun ls hl => ?_)
            refine lv_goto (tgt := 5) hx hb dX5_feesToPay_67 (by decide) ?_
            exact ih  (f + (m_X5_feesFor st u x2)) (u + (1 : Int32)) (lp_up h0 c_1) (lp_dec h0 c_1 hm) (by rw [← hQ, m_X5_feesToPay_L5, if_neg c_1, if_pos c_2, if_neg c_4]) ls (lv_sub hl [3, 4, 5, 1, 0] rfl)
          · skip
            refine lv_iload_n hx hb dX5_feesToPay_59 rfl (lv_at hl 0 rfl) ?_
            refine lv_iload hx hb dX5_feesToPay_60 (lv_at hl 1 rfl) ?_
            refine lv_isub hx hb dX5_feesToPay_62 ?_
            refine lv_istore_n (lv' := [(3, .int ((f + (m_X5_feesFor st u x2)) - (m_X5_feesFor st u x2))), (5, .int (m_X5_feesFor st u x2)), (0, .ref (a 0)), (1, .int x1), (2, .int x2), (4, .int u)]) hx hb dX5_feesToPay_63 rfl hl (by decide) rfl (fun ls hl => ?_)
            refine lv_iinc (v := (u + (1 : Int32))) (lv' := [(4, .int (u + (1 : Int32))), (3, .int ((f + (m_X5_feesFor st u x2)) - (m_X5_feesFor st u x2))), (5, .int (m_X5_feesFor st u x2)), (0, .ref (a 0)), (1, .int x1), (2, .int x2)]) hx hb dX5_feesToPay_64 hl (k := 5) rfl rfl (by decide) rfl (fun ls hl => ?_)
            refine lv_goto (tgt := 5) hx hb dX5_feesToPay_67 (by decide) ?_
            exact ih  ((f + (m_X5_feesFor st u x2)) - (m_X5_feesFor st u x2)) (u + (1 : Int32)) (lp_up h0 c_1) (lp_dec h0 c_1 hm) (by rw [← hQ, m_X5_feesToPay_L5, if_neg c_1, if_pos c_2, if_pos c_4]) ls (lv_sub hl [3, 4, 5, 1, 0] rfl)
  refine lv_iconst (v := (0 : Int32)) hx hb dX5_feesToPay_0 (by decide) ?_
  refine lv_istore_n (lv' := [(3, .int (0 : Int32)), (0, .ref (a 0)), (1, .int x1), (2, .int x2)]) hx hb dX5_feesToPay_1 rfl hl (by decide) rfl (fun ls hl => ?_)
  refine lv_iconst (v := (0 : Int32)) hx hb dX5_feesToPay_2 (by decide) ?_
  refine lv_istore (lv' := [(4, .int (0 : Int32)), (3, .int (0 : Int32)), (0, .ref (a 0)), (1, .int x1), (2, .int x2)]) hx hb dX5_feesToPay_3 hl (by decide) rfl (fun ls hl => ?_)
  exact L_5 100 (0 : Int32) (0 : Int32) (by decide) (lp_init (M := 16) hOK.1.2 (by decide)) (by rw [m_X5_feesToPay]) ls (lv_sub hl [2, 3, 4, 1, 0] rfl)
def m_X5_cheapestCore_L5 : Nat → StT → Int32 → Int32 → Int32 → Int32 → Int32
  | 0, _, _, _, _, _ => 0
  | nF + 1, st, x1, x2, best, u => if (uN (sU st)) ≤ u then best else if (m_X7_isFreeCore (sU st) u) = (0 : Int32) then m_X5_cheapestCore_L5 nF st x1 x2 best (u + (1 : Int32)) else if (m_X7_isOfKindAt (sU st) u x2 x1) = (0 : Int32) then m_X5_cheapestCore_L5 nF st x1 x2 best (u + (1 : Int32)) else if best = (-1 : Int32) then m_X5_cheapestCore_L5 nF st x1 x2 u (u + (1 : Int32)) else if (m_X5_priceForCore st best) ≤ (m_X5_priceForCore st u) then m_X5_cheapestCore_L5 nF st x1 x2 best (u + (1 : Int32)) else m_X5_cheapestCore_L5 nF st x1 x2 u (u + (1 : Int32))
def m_X5_cheapestCore (st : StT) (x1 : Int32) (x2 : Int32) : Int32 := m_X5_cheapestCore_L5 100 st x1 x2 (-1 : Int32) (0 : Int32)
theorem hd_X5_cheapestCore : yX5_cheapestCore.cls = RX5 ∧ yX5_cheapestCore.cls ≠ "java/lang/invoke/MethodHandle" ∧ yX5_cheapestCore.cls ≠ "java/lang/invoke/VarHandle" ∧ (parseMethodDescriptor yX5_cheapestCore.desc).map (fun d => d.parameters.length) = some 2 := by decide +kernel
set_option maxHeartbeats 8000000 in
set_option maxRecDepth 20000 in
theorem c_X5_cheapestCore (l : Launch) (D : va_G) (cy : Nat → ClassId) (a : Nat → Nat) (st : StT) (x1 : Int32) (x2 : Int32) (hOK : stOK st) : RO l D cy yX5_cheapestCore wsX5_cheapestCore ({ frames := 3, cells := 0, slots := 0, locals := 63 } : Room) (wSt cy a st) [.ref (a 0), .int x1, .int x2] (m_X5_cheapestCore st x1 x2) := by
  refine RO.body (by decide) rfl (Nat.le_of_ble_eq_true rfl) ?_
  intro p e s m below meth c hx hb hml hr hts hown hlocks hP hG ls hl
  have hl : lv_has ls 5 [(0, .ref (a 0)), (1, .int x1), (2, .int x2)] := hl
  have hCF : CallFix p m c cX5_cheapestCore 5 s ([.ref (a 0), .int x1, .int x2] : List Value).toArray wsX5_cheapestCore RX5 := ⟨hx, hb, hml, hown, hts⟩
  have in_X5 : ∀ w ∈ u_ws RX5 TX5 9, w ∈ wsX5_cheapestCore := fun _ h => List.mem_cons_of_mem _ (List.mem_append_left _ (List.mem_append_right _ h))
  have in_X7 : ∀ w ∈ u_ws RX7 TX7 6, w ∈ wsX5_cheapestCore := fun _ h => List.mem_cons_of_mem _ (List.mem_append_right _ h)
  have k_0 := hts (Cond.fieldLink RX5 12 "SparePool$State" "units" "LSparePool$Units;") (List.mem_of_getElem? (i := 1) rfl)
  have k_1 := hts (Cond.initialized RX7) (List.mem_of_getElem? (i := 3) rfl)
  have k_2 := hts (Cond.instanceMethod yX7_isFreeCore) (List.mem_of_getElem? (i := 2) rfl)
  have k_3 := hts (Cond.selects RX7 yX7_isFreeCore yX7_isFreeCore) (List.mem_of_getElem? (i := 4) rfl)
  have k_4 := hts (Cond.instanceMethod yX7_isOfKindAt) (List.mem_of_getElem? (i := 17) rfl)
  have k_5 := hts (Cond.selects RX7 yX7_isOfKindAt yX7_isOfKindAt) (List.mem_of_getElem? (i := 18) rfl)
  have L_5 : ∀ (nF : Nat) (best : Int32) (u : Int32), 0 ≤ u.toInt → ((uN (sU st)).toInt - u.toInt).toNat < nF → m_X5_cheapestCore_L5 nF st x1 x2 best u = (m_X5_cheapestCore st x1 x2) → ∀ ls : Array Slot, lv_has ls 5 [(0, .ref (a 0)), (1, .int x1), (2, .int x2), (3, .int best), (4, .int u)] → W p l e ({ frames := 3, cells := 0, slots := 0, locals := 63 } : Room) s m ([.ref (a 0), .int x1, .int x2] : List Value).toArray below meth c s.heap [] 0 0 (MQ below (vp_Si (fun v_ => v_ = (m_X5_cheapestCore st x1 x2))) ([.ref (a 0), .int x1, .int x2] : List Value).toArray s 0 0 (fun _ => False)) (F0 m 5 ls []) := by
    intro nF
    induction nF with
    | zero => intro best u h0 hm; exact absurd hm (Nat.not_lt_zero _)
    | succ nF ih =>
      intro best u h0 hm hQ ls hl
      refine lv_iload hx hb dX5_cheapestCore_5 (lv_at hl 4 rfl) ?_
      refine lv_aload_n hx hb dX5_cheapestCore_7 rfl (lv_at hl 0 rfl) ?_
      refine va_get (D := D) (ci := 3) (v := .ref (a 1)) (C := RX5) (T := TX5) (N := 9) hx hb hts in_X5 hown hG.1 hP 0 g_St_0 rfl 0 (by decide) k_0 (fun _ h9 => h9) rfl dX5_cheapestCore_8 ?_
      refine va_getN (D := D) (ci := 5) (v := .int (uN (sU st))) (C := RX7) (T := TX7) (N := 6) hx hb hts in_X7 hown hG.1 hP 1 g_St_1 rfl 5 (by decide) (va_Nw.use rfl (nw_X5_48 hG.2)) (fun _ h9 => h9) rfl dX5_cheapestCore_11 ?_
      refine lv_icmp_ge (tgt := 71) hx hb dX5_cheapestCore_14 (by decide) (fun c_1 => ?_) (fun c_1 => ?_)
      · skip
        refine lv_iload_n hx hb dX5_cheapestCore_71 rfl (lv_at hl 3 rfl) ?_
        exact ro_iret hx hb hr hlocks dX5_cheapestCore_72 (by rw [← hQ, m_X5_cheapestCore_L5, if_pos c_1])
      · skip
        refine lv_aload_n hx hb dX5_cheapestCore_17 rfl (lv_at hl 0 rfl) ?_
        refine va_get (D := D) (ci := 3) (v := .ref (a 1)) (C := RX5) (T := TX5) (N := 9) hx hb hts in_X5 hown hG.1 hP 0 g_St_0 rfl 0 (by decide) k_0 (fun _ h9 => h9) rfl dX5_cheapestCore_18 ?_
        refine lv_iload hx hb dX5_cheapestCore_21 (lv_at hl 4 rfl) ?_
        refine roVN (wc := (wUn cy (a 1) (a 2) (a 3) (a 4) (a 5) (a 6) (sU st))) (As := [.int u]) (rest := []) (c_X7_isFreeCore l D cy (a 1) (a 2) (a 3) (a 4) (a 5) (a 6) (sU st) u hOK.1) hCF gX5_cheapestCore_X7_isFreeCore_n119 (nw_X5_119 hG.2) k_1 k_2 k_3 rfl hd_X7_isFreeCore ⟨rfl, rfl, Nat.le_of_ble_eq_true rfl, Nat.le_of_ble_eq_true rfl⟩ hG (hP.sub (ws' := (wUn cy (a 1) (a 2) (a 3) (a 4) (a 5) (a 6) (sU st))) [1, 2, 3, 4, 5, 6] u_St_Un) (ci := 5) rfl rfl g_Un_0 rfl hl.1 rfl (Nat.le_of_ble_eq_true rfl) dX5_cheapestCore_23 ⟨Nat.le_refl _, Nat.le_refl _⟩ ?_
        refine lv_if_eq (tgt := 65) hx hb dX5_cheapestCore_26 (by decide) (fun c_2 => ?_) (fun c_2 => ?_)
        · skip
          refine lv_iinc (v := (u + (1 : Int32))) (lv' := [(4, .int (u + (1 : Int32))), (0, .ref (a 0)), (1, .int x1), (2, .int x2), (3, .int best)]) hx hb dX5_cheapestCore_65 hl (k := 4) rfl rfl (by decide) rfl (fun ls hl => ?_)
          refine lv_goto (tgt := 5) hx hb dX5_cheapestCore_68 (by decide) ?_
          exact ih  best (u + (1 : Int32)) (lp_up h0 c_1) (lp_dec h0 c_1 hm) (by rw [← hQ, m_X5_cheapestCore_L5, if_neg c_1, if_pos c_2]) ls (lv_sub hl [1, 2, 3, 4, 0] rfl)
        · skip
          refine lv_aload_n hx hb dX5_cheapestCore_29 rfl (lv_at hl 0 rfl) ?_
          refine va_get (D := D) (ci := 3) (v := .ref (a 1)) (C := RX5) (T := TX5) (N := 9) hx hb hts in_X5 hown hG.1 hP 0 g_St_0 rfl 0 (by decide) k_0 (fun _ h9 => h9) rfl dX5_cheapestCore_30 ?_
          refine lv_iload hx hb dX5_cheapestCore_33 (lv_at hl 4 rfl) ?_
          refine lv_iload_n hx hb dX5_cheapestCore_35 rfl (lv_at hl 2 rfl) ?_
          refine lv_iload_n hx hb dX5_cheapestCore_36 rfl (lv_at hl 1 rfl) ?_
          refine roVN (wc := (wUn cy (a 1) (a 2) (a 3) (a 4) (a 5) (a 6) (sU st))) (As := [.int u, .int x2, .int x1]) (rest := []) (c_X7_isOfKindAt l D cy (a 1) (a 2) (a 3) (a 4) (a 5) (a 6) (sU st) u x2 x1 hOK.1) hCF gX5_cheapestCore_X7_isOfKindAt_n152 (nw_X5_152 hG.2) k_1 k_4 k_5 rfl hd_X7_isOfKindAt ⟨rfl, rfl, Nat.le_of_ble_eq_true rfl, Nat.le_of_ble_eq_true rfl⟩ hG (hP.sub (ws' := (wUn cy (a 1) (a 2) (a 3) (a 4) (a 5) (a 6) (sU st))) [1, 2, 3, 4, 5, 6] u_St_Un) (ci := 5) rfl rfl g_Un_0 rfl hl.1 rfl (Nat.le_of_ble_eq_true rfl) dX5_cheapestCore_37 ⟨Nat.le_refl _, Nat.le_refl _⟩ ?_
          refine lv_if_eq (tgt := 65) hx hb dX5_cheapestCore_40 (by decide) (fun c_3 => ?_) (fun c_3 => ?_)
          · skip
            refine lv_iinc (v := (u + (1 : Int32))) (lv' := [(4, .int (u + (1 : Int32))), (0, .ref (a 0)), (1, .int x1), (2, .int x2), (3, .int best)]) hx hb dX5_cheapestCore_65 hl (k := 4) rfl rfl (by decide) rfl (fun ls hl => ?_)
            refine lv_goto (tgt := 5) hx hb dX5_cheapestCore_68 (by decide) ?_
            exact ih  best (u + (1 : Int32)) (lp_up h0 c_1) (lp_dec h0 c_1 hm) (by rw [← hQ, m_X5_cheapestCore_L5, if_neg c_1, if_neg c_2, if_pos c_3]) ls (lv_sub hl [1, 2, 3, 4, 0] rfl)
          · skip
            refine lv_iload_n hx hb dX5_cheapestCore_43 rfl (lv_at hl 3 rfl) ?_
            refine lv_iconst (v := (-1 : Int32)) hx hb dX5_cheapestCore_44 (by decide) ?_
            refine lv_icmp_eq (tgt := 62) hx hb dX5_cheapestCore_45 (by decide) (fun c_4 => ?_) (fun c_4 => ?_)
            · skip
              refine lv_iload hx hb dX5_cheapestCore_62 (lv_at hl 4 rfl) ?_
              refine lv_istore_n (lv' := [(3, .int u), (0, .ref (a 0)), (1, .int x1), (2, .int x2), (4, .int u)]) hx hb dX5_cheapestCore_64 rfl hl (by decide) rfl (fun ls hl => ?_)
              refine lv_iinc (v := (u + (1 : Int32))) (lv' := [(4, .int (u + (1 : Int32))), (3, .int u), (0, .ref (a 0)), (1, .int x1), (2, .int x2)]) hx hb dX5_cheapestCore_65 hl (k := 4) rfl rfl (by decide) rfl (fun ls hl => ?_)
              refine lv_goto (tgt := 5) hx hb dX5_cheapestCore_68 (by decide) ?_
              exact ih  u (u + (1 : Int32)) (lp_up h0 c_1) (lp_dec h0 c_1 hm) (by rw [← hQ, m_X5_cheapestCore_L5, if_neg c_1, if_neg c_2, if_neg c_3, if_pos c_4]) ls (lv_sub hl [2, 3, 4, 1, 0] rfl)
            · skip
              refine lv_aload_n hx hb dX5_cheapestCore_48 rfl (lv_at hl 0 rfl) ?_
              refine lv_iload hx hb dX5_cheapestCore_49 (lv_at hl 4 rfl) ?_
              refine roV (wc := (wSt cy a st)) (As := [.int u]) (rest := []) (c_X5_priceForCore l D cy a st u hOK) hCF gX5_cheapestCore_X5_priceForCore rfl hd_X5_priceForCore ⟨rfl, rfl, Nat.le_of_ble_eq_true rfl, Nat.le_of_ble_eq_true rfl⟩ hG hP (ci := 3) rfl rfl g_St_0 rfl hl.1 rfl (Nat.le_of_ble_eq_true rfl) dX5_cheapestCore_51 ⟨Nat.le_refl _, Nat.le_refl _⟩ ?_
              refine lv_aload_n hx hb dX5_cheapestCore_54 rfl (lv_at hl 0 rfl) ?_
              refine lv_iload_n hx hb dX5_cheapestCore_55 rfl (lv_at hl 3 rfl) ?_
              refine roV (wc := (wSt cy a st)) (As := [.int best]) (rest := [.int (m_X5_priceForCore st u)]) (c_X5_priceForCore l D cy a st best hOK) hCF gX5_cheapestCore_X5_priceForCore rfl hd_X5_priceForCore ⟨rfl, rfl, Nat.le_of_ble_eq_true rfl, Nat.le_of_ble_eq_true rfl⟩ hG hP (ci := 3) rfl rfl g_St_0 rfl hl.1 rfl (Nat.le_of_ble_eq_true rfl) dX5_cheapestCore_56 ⟨Nat.le_refl _, Nat.le_refl _⟩ ?_
              refine lv_icmp_ge (tgt := 65) hx hb dX5_cheapestCore_59 (by decide) (fun c_5 => ?_) (fun c_5 => ?_)
              · skip
                refine lv_iinc (v := (u + (1 : Int32))) (lv' := [(4, .int (u + (1 : Int32))), (0, .ref (a 0)), (1, .int x1), (2, .int x2), (3, .int best)]) hx hb dX5_cheapestCore_65 hl (k := 4) rfl rfl (by decide) rfl (fun ls hl => ?_)
                refine lv_goto (tgt := 5) hx hb dX5_cheapestCore_68 (by decide) ?_
                exact ih  best (u + (1 : Int32)) (lp_up h0 c_1) (lp_dec h0 c_1 hm) (by rw [← hQ, m_X5_cheapestCore_L5, if_neg c_1, if_neg c_2, if_neg c_3, if_neg c_4, if_pos c_5]) ls (lv_sub hl [1, 2, 3, 4, 0] rfl)
              · skip
                refine lv_iload hx hb dX5_cheapestCore_62 (lv_at hl 4 rfl) ?_
                refine lv_istore_n (lv' := [(3, .int u), (0, .ref (a 0)), (1, .int x1), (2, .int x2), (4, .int u)]) hx hb dX5_cheapestCore_64 rfl hl (by decide) rfl (fun ls hl => ?_)
                refine lv_iinc (v := (u + (1 : Int32))) (lv' := [(4, .int (u + (1 : Int32))), (3, .int u), (0, .ref (a 0)), (1, .int x1), (2, .int x2)]) hx hb dX5_cheapestCore_65 hl (k := 4) rfl rfl (by decide) rfl (fun ls hl => ?_)
                refine lv_goto (tgt := 5) hx hb dX5_cheapestCore_68 (by decide) ?_
                exact ih  u (u + (1 : Int32)) (lp_up h0 c_1) (lp_dec h0 c_1 hm) (by rw [← hQ, m_X5_cheapestCore_L5, if_neg c_1, if_neg c_2, if_neg c_3, if_neg c_4, if_neg c_5]) ls (lv_sub hl [2, 3, 4, 1, 0] rfl)
  refine lv_iconst (v := (-1 : Int32)) hx hb dX5_cheapestCore_0 (by decide) ?_
  refine lv_istore_n (lv' := [(3, .int (-1 : Int32)), (0, .ref (a 0)), (1, .int x1), (2, .int x2)]) hx hb dX5_cheapestCore_1 rfl hl (by decide) rfl (fun ls hl => ?_)
  refine lv_iconst (v := (0 : Int32)) hx hb dX5_cheapestCore_2 (by decide) ?_
  refine lv_istore (lv' := [(4, .int (0 : Int32)), (3, .int (-1 : Int32)), (0, .ref (a 0)), (1, .int x1), (2, .int x2)]) hx hb dX5_cheapestCore_3 hl (by decide) rfl (fun ls hl => ?_)
  exact L_5 100 (-1 : Int32) (0 : Int32) (by decide) (lp_init (M := 16) hOK.1.2 (by decide)) (by rw [m_X5_cheapestCore]) ls (lv_sub hl [2, 3, 4, 1, 0] rfl)
def m_X5_accountWhenAllIsSettled (st : StT) (x1 : Int32) : Int32 := if (m_X8_isHolder x1) = (0 : Int32) then (0 : Int32) else (((sA st) x1.toNatClampNeg) - (m_X5_feesToPay st x1 (0 : Int32))) - (((sS st) (2 : Int32).toNatClampNeg) * ((m_X1_owedBy (sD st) x1) - (m_X1_owedTo (sD st) x1)))
theorem hd_X5_accountWhenAllIsSettled : yX5_accountWhenAllIsSettled.cls = RX5 ∧ yX5_accountWhenAllIsSettled.cls ≠ "java/lang/invoke/MethodHandle" ∧ yX5_accountWhenAllIsSettled.cls ≠ "java/lang/invoke/VarHandle" ∧ (parseMethodDescriptor yX5_accountWhenAllIsSettled.desc).map (fun d => d.parameters.length) = some 1 := by decide +kernel
set_option maxHeartbeats 8000000 in
set_option maxRecDepth 20000 in
theorem c_X5_accountWhenAllIsSettled (l : Launch) (D : va_G) (cy : Nat → ClassId) (a : Nat → Nat) (st : StT) (x1 : Int32) (hOK : stOK st) : RO l D cy yX5_accountWhenAllIsSettled wsX5_accountWhenAllIsSettled ({ frames := 4, cells := 0, slots := 0, locals := 90 } : Room) (wSt cy a st) [.ref (a 0), .int x1] (m_X5_accountWhenAllIsSettled st x1) := by
  refine RO.body (by decide) rfl (Nat.le_of_ble_eq_true rfl) ?_
  intro p e s m below meth c hx hb hml hr hts hown hlocks hP hG ls hl
  have hl : lv_has ls 3 [(0, .ref (a 0)), (1, .int x1)] := hl
  have hCF : CallFix p m c cX5_accountWhenAllIsSettled 3 s ([.ref (a 0), .int x1] : List Value).toArray wsX5_accountWhenAllIsSettled RX5 := ⟨hx, hb, hml, hown, hts⟩
  have in_X5 : ∀ w ∈ u_ws RX5 TX5 9, w ∈ wsX5_accountWhenAllIsSettled := fun _ h => List.mem_cons_of_mem _ (List.mem_append_left _ (List.mem_append_left _ (List.mem_append_right _ h)))
  have k_0 := hts (Cond.initialized RX8) (List.mem_of_getElem? (i := 5) rfl)
  have k_1 := hts (Cond.static yX8_isHolder) (List.mem_of_getElem? (i := 4) rfl)
  have k_2 := hts (Cond.fieldLink RX5 28 "SparePool$State" "debts" "LSparePool$Debts;") (List.mem_of_getElem? (i := 1) rfl)
  have k_3 := hts (Cond.initialized RX1) (List.mem_of_getElem? (i := 8) rfl)
  have k_4 := hts (Cond.instanceMethod yX1_owedBy) (List.mem_of_getElem? (i := 7) rfl)
  have k_5 := hts (Cond.selects RX1 yX1_owedBy yX1_owedBy) (List.mem_of_getElem? (i := 9) rfl)
  have k_6 := hts (Cond.instanceMethod yX1_owedTo) (List.mem_of_getElem? (i := 16) rfl)
  have k_7 := hts (Cond.selects RX1 yX1_owedTo yX1_owedTo) (List.mem_of_getElem? (i := 17) rfl)
  have k_8 := hts (Cond.fieldLink RX5 32 "SparePool$State" "account" "[I") (List.mem_of_getElem? (i := 2) rfl)
  have k_9 := hts (Cond.fieldLink RX5 36 "SparePool$State" "setting" "[I") (List.mem_of_getElem? (i := 3) rfl)
  refine lv_iload_n hx hb dX5_accountWhenAllIsSettled_0 rfl (lv_at hl 1 rfl) ?_
  refine roSN (wc := ([] : va_W)) (As := [.int x1]) (rest := []) (c_X8_isHolder l D cy x1) hCF gX5_accountWhenAllIsSettled_X8_isHolder_n82 (nw_X5_82 hG.2) k_0 k_1 rfl hd_X8_isHolder.2 ⟨rfl, rfl, Nat.le_of_ble_eq_true rfl, Nat.le_of_ble_eq_true rfl⟩ hG va_P_nil rfl hl.1 rfl (Nat.le_of_ble_eq_true rfl) dX5_accountWhenAllIsSettled_1 ⟨Nat.le_refl _, Nat.le_refl _⟩ ?_
  refine lv_if_ne (tgt := 9) hx hb dX5_accountWhenAllIsSettled_4 (by decide) (fun c_1 => ?_) (fun c_1 => ?_)
  · skip
    refine lv_aload_n hx hb dX5_accountWhenAllIsSettled_9 rfl (lv_at hl 0 rfl) ?_
    refine va_get (D := D) (ci := 3) (v := .ref (a 11)) (C := RX5) (T := TX5) (N := 9) hx hb hts in_X5 hown hG.1 hP 0 g_St_0 rfl 2 (by decide) k_2 (fun _ h9 => h9) rfl dX5_accountWhenAllIsSettled_10 ?_
    refine lv_iload_n hx hb dX5_accountWhenAllIsSettled_13 rfl (lv_at hl 1 rfl) ?_
    refine roVN (wc := (wDe cy (a 11) (a 12) (sD st))) (As := [.int x1]) (rest := []) (c_X1_owedBy l D cy (a 11) (a 12) (sD st) x1) hCF gX5_accountWhenAllIsSettled_X1_owedBy_n188 (nw_X5_188 hG.2) k_3 k_4 k_5 rfl hd_X1_owedBy ⟨rfl, rfl, Nat.le_of_ble_eq_true rfl, Nat.le_of_ble_eq_true rfl⟩ hG (hP.sub (ws' := (wDe cy (a 11) (a 12) (sD st))) [11, 12] u_St_De) (ci := 1) rfl rfl g_De_0 rfl hl.1 rfl (Nat.le_of_ble_eq_true rfl) dX5_accountWhenAllIsSettled_14 ⟨Nat.le_refl _, Nat.le_refl _⟩ ?_
    refine lv_aload_n hx hb dX5_accountWhenAllIsSettled_17 rfl (lv_at hl 0 rfl) ?_
    refine va_get (D := D) (ci := 3) (v := .ref (a 11)) (C := RX5) (T := TX5) (N := 9) hx hb hts in_X5 hown hG.1 hP 0 g_St_0 rfl 2 (by decide) k_2 (fun _ h9 => h9) rfl dX5_accountWhenAllIsSettled_18 ?_
    refine lv_iload_n hx hb dX5_accountWhenAllIsSettled_21 rfl (lv_at hl 1 rfl) ?_
    refine roVN (wc := (wDe cy (a 11) (a 12) (sD st))) (As := [.int x1]) (rest := [.int (m_X1_owedBy (sD st) x1)]) (c_X1_owedTo l D cy (a 11) (a 12) (sD st) x1) hCF gX5_accountWhenAllIsSettled_X1_owedTo_n191 (nw_X5_191 hG.2) k_3 k_6 k_7 rfl hd_X1_owedTo ⟨rfl, rfl, Nat.le_of_ble_eq_true rfl, Nat.le_of_ble_eq_true rfl⟩ hG (hP.sub (ws' := (wDe cy (a 11) (a 12) (sD st))) [11, 12] u_St_De) (ci := 1) rfl rfl g_De_0 rfl hl.1 rfl (Nat.le_of_ble_eq_true rfl) dX5_accountWhenAllIsSettled_22 ⟨Nat.le_refl _, Nat.le_refl _⟩ ?_
    refine lv_isub hx hb dX5_accountWhenAllIsSettled_25 ?_
    refine lv_istore_n (lv' := [(2, .int ((m_X1_owedBy (sD st) x1) - (m_X1_owedTo (sD st) x1))), (0, .ref (a 0)), (1, .int x1)]) hx hb dX5_accountWhenAllIsSettled_26 rfl hl (by decide) rfl (fun ls hl => ?_)
    refine lv_aload_n hx hb dX5_accountWhenAllIsSettled_27 rfl (lv_at hl 1 rfl) ?_
    refine va_get (D := D) (ci := 3) (v := .ref (a 13)) (C := RX5) (T := TX5) (N := 9) hx hb hts in_X5 hown hG.1 hP 0 g_St_0 rfl 3 (by decide) k_8 (fun _ h9 => h9) rfl dX5_accountWhenAllIsSettled_28 ?_
    refine lv_iload_n hx hb dX5_accountWhenAllIsSettled_31 rfl (lv_at hl 2 rfl) ?_
    refine va_iald hx hb hG.1 hP 13 0 (n := 5) (f := (sA st)) g_St_13 rfl (bd_isHolder c_1) dX5_accountWhenAllIsSettled_32 ?_
    refine lv_aload_n hx hb dX5_accountWhenAllIsSettled_33 rfl (lv_at hl 1 rfl) ?_
    refine lv_iload_n hx hb dX5_accountWhenAllIsSettled_34 rfl (lv_at hl 2 rfl) ?_
    refine lv_iconst (v := (0 : Int32)) hx hb dX5_accountWhenAllIsSettled_35 (by decide) ?_
    refine roV (wc := (wSt cy a st)) (As := [.int x1, .int (0 : Int32)]) (rest := [.int ((sA st) x1.toNatClampNeg)]) (c_X5_feesToPay l D cy a st x1 (0 : Int32) hOK) hCF gX5_accountWhenAllIsSettled_X5_feesToPay rfl hd_X5_feesToPay ⟨rfl, rfl, Nat.le_of_ble_eq_true rfl, Nat.le_of_ble_eq_true rfl⟩ hG hP (ci := 3) rfl rfl g_St_0 rfl hl.1 rfl (Nat.le_of_ble_eq_true rfl) dX5_accountWhenAllIsSettled_36 ⟨Nat.le_refl _, Nat.le_refl _⟩ ?_
    refine lv_isub hx hb dX5_accountWhenAllIsSettled_39 ?_
    refine lv_aload_n hx hb dX5_accountWhenAllIsSettled_40 rfl (lv_at hl 1 rfl) ?_
    refine va_get (D := D) (ci := 3) (v := .ref (a 14)) (C := RX5) (T := TX5) (N := 9) hx hb hts in_X5 hown hG.1 hP 0 g_St_0 rfl 4 (by decide) k_9 (fun _ h9 => h9) rfl dX5_accountWhenAllIsSettled_41 ?_
    refine lv_iconst (v := (2 : Int32)) hx hb dX5_accountWhenAllIsSettled_44 (by decide) ?_
    refine va_iald hx hb hG.1 hP 14 0 (n := 3) (f := (sS st)) g_St_14 rfl (bd_of (by decide) (by decide)) dX5_accountWhenAllIsSettled_45 ?_
    refine lv_iload_n hx hb dX5_accountWhenAllIsSettled_46 rfl (lv_at hl 0 rfl) ?_
    refine lv_imul hx hb dX5_accountWhenAllIsSettled_47 ?_
    refine lv_isub hx hb dX5_accountWhenAllIsSettled_48 ?_
    exact ro_iret hx hb hr hlocks dX5_accountWhenAllIsSettled_49 (by rw [m_X5_accountWhenAllIsSettled, if_neg c_1])
  · skip
    refine lv_iconst (v := (0 : Int32)) hx hb dX5_accountWhenAllIsSettled_7 (by decide) ?_
    exact ro_iret hx hb hr hlocks dX5_accountWhenAllIsSettled_8 (by rw [m_X5_accountWhenAllIsSettled, if_pos c_1])
def m_X5_pay (st : StT) (x1 : Int32) (x2 : Int32) (x3 : Int32) : StT := if (m_X8_isHolder x1) = (0 : Int32) then if (m_X8_isHolder x2) = (0 : Int32) then sO' st ((sO st) + x3) else sA' st (upd (sA st) x2.toNatClampNeg (((sA st) x2.toNatClampNeg) + x3)) else if (m_X8_isHolder x2) = (0 : Int32) then sO' (sA' st (upd (sA st) x1.toNatClampNeg (((sA st) x1.toNatClampNeg) - x3))) ((sO st) + x3) else sA' st (upd (upd (sA st) x1.toNatClampNeg (((sA st) x1.toNatClampNeg) - x3)) x2.toNatClampNeg (((upd (sA st) x1.toNatClampNeg (((sA st) x1.toNatClampNeg) - x3)) x2.toNatClampNeg) + x3))
theorem hd_X5_pay : yX5_pay.cls = RX5 ∧ yX5_pay.cls ≠ "java/lang/invoke/MethodHandle" ∧ yX5_pay.cls ≠ "java/lang/invoke/VarHandle" ∧ (parseMethodDescriptor yX5_pay.desc).map (fun d => d.parameters.length) = some 3 := by decide +kernel
set_option maxHeartbeats 8000000 in
set_option maxRecDepth 20000 in
theorem c_X5_pay (l : Launch) (D : va_G) (cy : Nat → ClassId) (a : Nat → Nat) (st : StT) (x1 : Int32) (x2 : Int32) (x3 : Int32) : MV l D cy yX5_pay wsX5_pay ({ frames := 1, cells := 0, slots := 0, locals := 20 } : Room) (wSt cy a st) (wSt cy a (m_X5_pay st x1 x2 x3)) [.ref (a 0), .int x1, .int x2, .int x3] := by
  refine MV.body (by decide) rfl (Nat.le_of_ble_eq_true rfl) ?_
  intro p e s m below meth c hx hb hml hr hts hown hlocks hP hG ls hl A hD hA hS
  have hl : lv_has ls 4 [(0, .ref (a 0)), (1, .int x1), (2, .int x2), (3, .int x3)] := hl
  have hCF : CallFix p m c cX5_pay 4 s ([.ref (a 0), .int x1, .int x2, .int x3] : List Value).toArray wsX5_pay RX5 := ⟨hx, hb, hml, hown, hts⟩
  have in_X5 : ∀ w ∈ u_ws RX5 TX5 9, w ∈ wsX5_pay := fun _ h => List.mem_cons_of_mem _ (List.mem_append_right _ h)
  have k_0 := hts (Cond.initialized RX8) (List.mem_of_getElem? (i := 4) rfl)
  have k_1 := hts (Cond.static yX8_isHolder) (List.mem_of_getElem? (i := 3) rfl)
  have k_2 := hts (Cond.fieldLink RX5 65 "SparePool$State" "paidOutside" "I") (List.mem_of_getElem? (i := 2) rfl)
  have k_3 := hts (Cond.fieldLink RX5 32 "SparePool$State" "account" "[I") (List.mem_of_getElem? (i := 1) rfl)
  have hP : va_P D vwCl (wSt cy a st) s.heap := hP
  refine lv_iload_n hx hb dX5_pay_0 rfl (lv_at hl 1 rfl) ?_
  refine roSN (wc := ([] : va_W)) (As := [.int x1]) (rest := []) (c_X8_isHolder l D cy x1) hCF gX5_pay_X8_isHolder_n82 (nw_X5_82 hG.2) k_0 k_1 rfl hd_X8_isHolder.2 ⟨rfl, rfl, Nat.le_of_ble_eq_true rfl, Nat.le_of_ble_eq_true rfl⟩ hG va_P_nil rfl hl.1 rfl (Nat.le_of_ble_eq_true rfl) dX5_pay_1 ⟨Nat.le_refl _, Nat.le_refl _⟩ ?_
  refine lv_if_eq (tgt := 17) hx hb dX5_pay_4 (by decide) (fun c_1 => ?_) (fun c_1 => ?_)
  · skip
    refine lv_iload_n hx hb dX5_pay_17 rfl (lv_at hl 2 rfl) ?_
    refine roSN (wc := ([] : va_W)) (As := [.int x2]) (rest := []) (c_X8_isHolder l D cy x2) hCF gX5_pay_X8_isHolder_n82 (nw_X5_82 hG.2) k_0 k_1 rfl hd_X8_isHolder.2 ⟨rfl, rfl, Nat.le_of_ble_eq_true rfl, Nat.le_of_ble_eq_true rfl⟩ hG va_P_nil rfl hl.1 rfl (Nat.le_of_ble_eq_true rfl) dX5_pay_18 ⟨Nat.le_refl _, Nat.le_refl _⟩ ?_
    refine lv_if_eq (tgt := 37) hx hb dX5_pay_21 (by decide) (fun c_2 => ?_) (fun c_2 => ?_)
    · skip
      refine lv_aload_n hx hb dX5_pay_37 rfl (lv_at hl 0 rfl) ?_
      refine lv_dup hx hb dX5_pay_38 rfl ?_
      refine va_get (D := D) (ci := 3) (v := .int (sO st)) (C := RX5) (T := TX5) (N := 9) hx hb hts in_X5 hown hG.1 hP 0 g_St_0 rfl 8 (by decide) k_2 (fun _ h9 => h9) rfl dX5_pay_39 ?_
      refine lv_iload_n hx hb dX5_pay_42 rfl (lv_at hl 3 rfl) ?_
      refine lv_iadd hx hb dX5_pay_43 ?_
      refine va_put (D := D) (ci := 3) (v := .int ((sO st) + x3)) (ty := .int) (C := RX5) (T := TX5) (N := 9) hx hb hts in_X5 tyX5 tyX5_ok nmX5 hown hG.1 hP hD hS 0 g_St_0 rfl 8 (by decide) k_2 (fun _ h9 => h9) rfl (by decide +kernel) rfl rfl (Nat.le_of_ble_eq_true rfl) dX5_pay_44 (fun H locs hP hD hS => ?_)
      have hP : va_P D vwCl (wSt cy a (sO' st ((sO st) + x3))) H := va_P_eq hP s_St_0_8
      have hD : va_D A (wSt cy a (sO' st ((sO st) + x3))) := va_D_eq hD s_St_0_8
      exact mu_vret hx hb hr hlocks hP hS dX5_pay_47 (by rw [m_X5_pay, if_pos c_1, if_pos c_2])
    · skip
      refine lv_aload_n hx hb dX5_pay_24 rfl (lv_at hl 0 rfl) ?_
      refine va_get (D := D) (ci := 3) (v := .ref (a 13)) (C := RX5) (T := TX5) (N := 9) hx hb hts in_X5 hown hG.1 hP 0 g_St_0 rfl 3 (by decide) k_3 (fun _ h9 => h9) rfl dX5_pay_25 ?_
      refine lv_iload_n hx hb dX5_pay_28 rfl (lv_at hl 2 rfl) ?_
      refine lv_dup2_11 hx hb dX5_pay_29 rfl rfl ?_
      refine va_iald hx hb hG.1 hP 13 0 (n := 5) (f := (sA st)) g_St_13 rfl (bd_isHolder c_2) dX5_pay_30 ?_
      refine lv_iload_n hx hb dX5_pay_31 rfl (lv_at hl 3 rfl) ?_
      refine lv_iadd hx hb dX5_pay_32 ?_
      refine va_iast hx hb hG.1 hP hD hS 13 0 (n := 5) (f := (sA st)) g_St_13 rfl (bd_isHolder c_2) dX5_pay_33 (fun H locs hP hD hS => ?_)
      have hP : va_P D vwCl (wSt cy a (sA' st (upd (sA st) x2.toNatClampNeg (((sA st) x2.toNatClampNeg) + x3)))) H := va_P_eq hP s_St_13
      have hD : va_D A (wSt cy a (sA' st (upd (sA st) x2.toNatClampNeg (((sA st) x2.toNatClampNeg) + x3)))) := va_D_eq hD s_St_13
      refine lv_goto (tgt := 47) hx hb dX5_pay_34 (by decide) ?_
      exact mu_vret hx hb hr hlocks hP hS dX5_pay_47 (by rw [m_X5_pay, if_pos c_1, if_neg c_2])
  · skip
    refine lv_aload_n hx hb dX5_pay_7 rfl (lv_at hl 0 rfl) ?_
    refine va_get (D := D) (ci := 3) (v := .ref (a 13)) (C := RX5) (T := TX5) (N := 9) hx hb hts in_X5 hown hG.1 hP 0 g_St_0 rfl 3 (by decide) k_3 (fun _ h9 => h9) rfl dX5_pay_8 ?_
    refine lv_iload_n hx hb dX5_pay_11 rfl (lv_at hl 1 rfl) ?_
    refine lv_dup2_11 hx hb dX5_pay_12 rfl rfl ?_
    refine va_iald hx hb hG.1 hP 13 0 (n := 5) (f := (sA st)) g_St_13 rfl (bd_isHolder c_1) dX5_pay_13 ?_
    refine lv_iload_n hx hb dX5_pay_14 rfl (lv_at hl 3 rfl) ?_
    refine lv_isub hx hb dX5_pay_15 ?_
    refine va_iast hx hb hG.1 hP hD hS 13 0 (n := 5) (f := (sA st)) g_St_13 rfl (bd_isHolder c_1) dX5_pay_16 (fun H locs hP hD hS => ?_)
    have hP : va_P D vwCl (wSt cy a (sA' st (upd (sA st) x1.toNatClampNeg (((sA st) x1.toNatClampNeg) - x3)))) H := va_P_eq hP s_St_13
    have hD : va_D A (wSt cy a (sA' st (upd (sA st) x1.toNatClampNeg (((sA st) x1.toNatClampNeg) - x3)))) := va_D_eq hD s_St_13
    refine lv_iload_n hx hb dX5_pay_17 rfl (lv_at hl 2 rfl) ?_
    refine roSN (wc := ([] : va_W)) (As := [.int x2]) (rest := []) (c_X8_isHolder l D cy x2) hCF gX5_pay_X8_isHolder_n82 (nw_X5_82 hG.2) k_0 k_1 rfl hd_X8_isHolder.2 ⟨rfl, rfl, Nat.le_of_ble_eq_true rfl, Nat.le_of_ble_eq_true rfl⟩ hG va_P_nil rfl hl.1 rfl (Nat.le_of_ble_eq_true rfl) dX5_pay_18 ⟨Nat.le_refl _, Nat.le_refl _⟩ ?_
    refine lv_if_eq (tgt := 37) hx hb dX5_pay_21 (by decide) (fun c_3 => ?_) (fun c_3 => ?_)
    · skip
      refine lv_aload_n hx hb dX5_pay_37 rfl (lv_at hl 0 rfl) ?_
      refine lv_dup hx hb dX5_pay_38 rfl ?_
      refine va_get (D := D) (ci := 3) (v := .int (sO st)) (C := RX5) (T := TX5) (N := 9) hx hb hts in_X5 hown hG.1 hP 0 g_St_0 rfl 8 (by decide) k_2 (fun _ h9 => h9) rfl dX5_pay_39 ?_
      refine lv_iload_n hx hb dX5_pay_42 rfl (lv_at hl 3 rfl) ?_
      refine lv_iadd hx hb dX5_pay_43 ?_
      refine va_put (D := D) (ci := 3) (v := .int ((sO st) + x3)) (ty := .int) (C := RX5) (T := TX5) (N := 9) hx hb hts in_X5 tyX5 tyX5_ok nmX5 hown hG.1 hP hD hS 0 g_St_0 rfl 8 (by decide) k_2 (fun _ h9 => h9) rfl (by decide +kernel) rfl rfl (Nat.le_of_ble_eq_true rfl) dX5_pay_44 (fun H locs hP hD hS => ?_)
      have hP : va_P D vwCl (wSt cy a (sO' (sA' st (upd (sA st) x1.toNatClampNeg (((sA st) x1.toNatClampNeg) - x3))) ((sO st) + x3))) H := va_P_eq hP s_St_0_8
      have hD : va_D A (wSt cy a (sO' (sA' st (upd (sA st) x1.toNatClampNeg (((sA st) x1.toNatClampNeg) - x3))) ((sO st) + x3))) := va_D_eq hD s_St_0_8
      exact mu_vret hx hb hr hlocks hP hS dX5_pay_47 (by rw [m_X5_pay, if_neg c_1, if_pos c_3])
    · skip
      refine lv_aload_n hx hb dX5_pay_24 rfl (lv_at hl 0 rfl) ?_
      refine va_get (D := D) (ci := 3) (v := .ref (a 13)) (C := RX5) (T := TX5) (N := 9) hx hb hts in_X5 hown hG.1 hP 0 g_St_0 rfl 3 (by decide) k_3 (fun _ h9 => h9) rfl dX5_pay_25 ?_
      refine lv_iload_n hx hb dX5_pay_28 rfl (lv_at hl 2 rfl) ?_
      refine lv_dup2_11 hx hb dX5_pay_29 rfl rfl ?_
      refine va_iald hx hb hG.1 hP 13 0 (n := 5) (f := (upd (sA st) x1.toNatClampNeg (((sA st) x1.toNatClampNeg) - x3))) g_St_13 rfl (bd_isHolder c_3) dX5_pay_30 ?_
      refine lv_iload_n hx hb dX5_pay_31 rfl (lv_at hl 3 rfl) ?_
      refine lv_iadd hx hb dX5_pay_32 ?_
      refine va_iast hx hb hG.1 hP hD hS 13 0 (n := 5) (f := (upd (sA st) x1.toNatClampNeg (((sA st) x1.toNatClampNeg) - x3))) g_St_13 rfl (bd_isHolder c_3) dX5_pay_33 (fun H locs hP hD hS => ?_)
      have hP : va_P D vwCl (wSt cy a (sA' st (upd (upd (sA st) x1.toNatClampNeg (((sA st) x1.toNatClampNeg) - x3)) x2.toNatClampNeg (((upd (sA st) x1.toNatClampNeg (((sA st) x1.toNatClampNeg) - x3)) x2.toNatClampNeg) + x3)))) H := va_P_eq hP s_St_13
      have hD : va_D A (wSt cy a (sA' st (upd (upd (sA st) x1.toNatClampNeg (((sA st) x1.toNatClampNeg) - x3)) x2.toNatClampNeg (((upd (sA st) x1.toNatClampNeg (((sA st) x1.toNatClampNeg) - x3)) x2.toNatClampNeg) + x3)))) := va_D_eq hD s_St_13
      refine lv_goto (tgt := 47) hx hb dX5_pay_34 (by decide) ?_
      exact mu_vret hx hb hr hlocks hP hS dX5_pay_47 (by rw [m_X5_pay, if_neg c_1, if_neg c_3])
theorem ok_pay {st : StT} {a b c : Int32} (h : stOK st) : stOK (m_X5_pay st a b c) := by
  unfold m_X5_pay
  split
  · split <;> exact h
  · split <;> exact h
def m_X5_tryDays (st : StT) (x1 : Int32) : Int32 × StT := if x1 < (1 : Int32) then ((-2 : Int32), st) else if x1 ≤ (99 : Int32) then ((sT st) + x1, sT' st ((sT st) + x1)) else ((-2 : Int32), st)
theorem hd_X5_tryDays : yX5_tryDays.cls = RX5 ∧ yX5_tryDays.cls ≠ "java/lang/invoke/MethodHandle" ∧ yX5_tryDays.cls ≠ "java/lang/invoke/VarHandle" ∧ (parseMethodDescriptor yX5_tryDays.desc).map (fun d => d.parameters.length) = some 1 := by decide +kernel
set_option maxHeartbeats 8000000 in
set_option maxRecDepth 20000 in
theorem c_X5_tryDays (l : Launch) (D : va_G) (cy : Nat → ClassId) (a : Nat → Nat) (st : StT) (x1 : Int32) : MU l D cy yX5_tryDays wsX5_tryDays ({ frames := 0, cells := 0, slots := 0, locals := 0 } : Room) (wSt cy a st) (wSt cy a (m_X5_tryDays st x1).2) [.ref (a 0), .int x1] (m_X5_tryDays st x1).1 := by
  refine MU.body (by decide) rfl (Nat.le_of_ble_eq_true rfl) ?_
  intro p e s m below meth c hx hb hml hr hts hown hlocks hP hG ls hl A hD hA hS
  have hl : lv_has ls 2 [(0, .ref (a 0)), (1, .int x1)] := hl
  have hCF : CallFix p m c cX5_tryDays 2 s ([.ref (a 0), .int x1] : List Value).toArray wsX5_tryDays RX5 := ⟨hx, hb, hml, hown, hts⟩
  have in_X5 : ∀ w ∈ u_ws RX5 TX5 9, w ∈ wsX5_tryDays := fun _ h => List.mem_cons_of_mem _ (List.mem_append_right _ h)
  have k_0 := hts (Cond.fieldLink RX5 56 "SparePool$State" "today" "I") (List.mem_of_getElem? (i := 1) rfl)
  have hP : va_P D vwCl (wSt cy a st) s.heap := hP
  refine lv_iload_n hx hb dX5_tryDays_0 rfl (lv_at hl 1 rfl) ?_
  refine lv_iconst (v := (1 : Int32)) hx hb dX5_tryDays_1 (by decide) ?_
  refine lv_icmp_lt (tgt := 11) hx hb dX5_tryDays_2 (by decide) (fun c_1 => ?_) (fun c_1 => ?_)
  · skip
    refine lv_bipush (v := (-2 : Int32)) hx hb dX5_tryDays_11 (by decide) ?_
    exact mu_iret hx hb hr hlocks hP hS dX5_tryDays_13 (by rw [m_X5_tryDays, if_pos c_1]) (by rw [m_X5_tryDays, if_pos c_1])
  · skip
    refine lv_iload_n hx hb dX5_tryDays_5 rfl (lv_at hl 1 rfl) ?_
    refine lv_bipush (v := (99 : Int32)) hx hb dX5_tryDays_6 (by decide) ?_
    refine lv_icmp_le (tgt := 14) hx hb dX5_tryDays_8 (by decide) (fun c_2 => ?_) (fun c_2 => ?_)
    · skip
      refine lv_aload_n hx hb dX5_tryDays_14 rfl (lv_at hl 0 rfl) ?_
      refine lv_dup hx hb dX5_tryDays_15 rfl ?_
      refine va_get (D := D) (ci := 3) (v := .int (sT st)) (C := RX5) (T := TX5) (N := 9) hx hb hts in_X5 hown hG.1 hP 0 g_St_0 rfl 5 (by decide) k_0 (fun _ h9 => h9) rfl dX5_tryDays_16 ?_
      refine lv_iload_n hx hb dX5_tryDays_19 rfl (lv_at hl 1 rfl) ?_
      refine lv_iadd hx hb dX5_tryDays_20 ?_
      refine va_put (D := D) (ci := 3) (v := .int ((sT st) + x1)) (ty := .int) (C := RX5) (T := TX5) (N := 9) hx hb hts in_X5 tyX5 tyX5_ok nmX5 hown hG.1 hP hD hS 0 g_St_0 rfl 5 (by decide) k_0 (fun _ h9 => h9) rfl (by decide +kernel) rfl rfl (Nat.le_of_ble_eq_true rfl) dX5_tryDays_21 (fun H locs hP hD hS => ?_)
      have hP : va_P D vwCl (wSt cy a (sT' st ((sT st) + x1))) H := va_P_eq hP s_St_0_5
      have hD : va_D A (wSt cy a (sT' st ((sT st) + x1))) := va_D_eq hD s_St_0_5
      refine lv_aload_n hx hb dX5_tryDays_24 rfl (lv_at hl 0 rfl) ?_
      refine va_get (D := D) (ci := 3) (v := .int ((sT st) + x1)) (C := RX5) (T := TX5) (N := 9) hx hb hts in_X5 hown hG.1 hP 0 g_St_0 rfl 5 (by decide) k_0 (fun _ h9 => h9) rfl dX5_tryDays_25 ?_
      exact mu_iret hx hb hr hlocks hP hS dX5_tryDays_28 (by rw [m_X5_tryDays, if_neg c_1, if_pos c_2]) (by rw [m_X5_tryDays, if_neg c_1, if_pos c_2])
    · skip
      refine lv_bipush (v := (-2 : Int32)) hx hb dX5_tryDays_11 (by decide) ?_
      exact mu_iret hx hb hr hlocks hP hS dX5_tryDays_13 (by rw [m_X5_tryDays, if_neg c_1, if_neg c_2]) (by rw [m_X5_tryDays, if_neg c_1, if_neg c_2])
