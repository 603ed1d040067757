def m_X9_append (mo : MoT) (x1 : Int32) : Int32 × MoT := if (m_X9_in x1.toInt64 (0 : Int64) (255 : Int64)) = (0 : Int32) then ((0 : Int32), mR' mo (1 : Int32)) else if (mZ mo) = (120 : Int32) then ((0 : Int32), mR' mo (2 : Int32)) else ((mZ mo) + (1 : Int32), mZ' (mT' (mR' mo (0 : Int32)) (upd (mT mo) (mZ mo).toNatClampNeg x1)) ((mZ mo) + (1 : Int32)))
theorem hd_X9_append : yX9_append.cls = RX9 ∧ yX9_append.cls ≠ "java/lang/invoke/MethodHandle" ∧ yX9_append.cls ≠ "java/lang/invoke/VarHandle" ∧ (parseMethodDescriptor yX9_append.desc).map (fun d => d.parameters.length) = some 1 := by decide +kernel
set_option maxHeartbeats 8000000 in
set_option maxRecDepth 20000 in
theorem c_X9_append (l : Launch) (D : va_G) (cy : Nat → ClassId) (a0 a1 a2 a3 a4 a5 a6 : Nat) (mo : MoT) (x1 : Int32) (hZ : iv 0 120 (mZ mo)) : MU l D cy yX9_append wsX9_append ({ frames := 1, cells := 0, slots := 0, locals := 25 } : Room) (wMo cy a0 a1 a2 a3 a4 a5 a6 mo) (wMo cy a0 a1 a2 a3 a4 a5 a6 (m_X9_append mo x1).2) [.ref a0, .int x1] (m_X9_append mo x1).1 := by
  refine MU.body (by decide) rfl (Nat.le_of_ble_eq_true rfl) ?_
  intro p e s m below meth c hx hb hml hr hts hown hlocks hP hG ls hl A hD hA hS
  have hl : lv_has ls 2 [(0, .ref a0), (1, .int x1)] := hl
  have hCF : CallFix p m c cX9_append 2 s ([.ref a0, .int x1] : List Value).toArray wsX9_append RX9 := ⟨hx, hb, hml, hown, hts⟩
  have in_X9 : ∀ w ∈ u_ws RX9 TX9 11, w ∈ wsX9_append := fun _ h => List.mem_cons_of_mem _ (List.mem_append_right _ h)
  have k_0 := hts (Cond.constantLong RX9 111 (255)) (List.mem_of_getElem? (i := 1) rfl)
  have k_1 := hts (Cond.fieldLink RX9 113 "SparePoolModel" "size" "I") (List.mem_of_getElem? (i := 2) rfl)
  have k_2 := hts (Cond.fieldLink RX9 7 "SparePoolModel" "text" "[I") (List.mem_of_getElem? (i := 3) rfl)
  have hP : va_P D vwCl (wMo cy a0 a1 a2 a3 a4 a5 a6 mo) s.heap := hP
  refine lv_aload_n hx hb dX9_append_0 rfl (lv_at hl 0 rfl) ?_
  refine lv_iload_n hx hb dX9_append_1 rfl (lv_at hl 1 rfl) ?_
  refine lv_i2l hx hb dX9_append_2 rfl ?_
  refine lv_lconst (v := (0 : Int64)) hx hb dX9_append_3 (by decide) ?_
  refine lv_ldc2 (v := (255 : Int64)) hx hb hown k_0 dX9_append_4 ?_
  refine roS (wc := ([] : va_W)) (As := [.long x1.toInt64, .long (0 : Int64), .long (255 : Int64)]) (rest := [.ref a0]) (c_X9_in l D cy x1.toInt64 (0 : Int64) (255 : Int64)) hCF gX9_append_X9_in rfl hd_X9_in ⟨rfl, rfl, Nat.le_of_ble_eq_true rfl, Nat.le_of_ble_eq_true rfl⟩ hG va_P_nil rfl hl.1 rfl (Nat.le_of_ble_eq_true rfl) dX9_append_7 ⟨Nat.le_refl _, Nat.le_refl _⟩ ?_
  refine lv_if_ne (tgt := 17) hx hb dX9_append_10 (by decide) (fun c_1 => ?_) (fun c_1 => ?_)
  · skip
    refine lv_aload_n hx hb dX9_append_17 rfl (lv_at hl 0 rfl) ?_
    refine va_get (D := D) (ci := 7) (v := .int (mZ mo)) (C := RX9) (T := TX9) (N := 11) hx hb hts in_X9 hown hG.1 hP 0 g_Mo_0 rfl 2 (by decide) k_1 (fun _ h9 => h9) rfl dX9_append_18 ?_
    refine lv_bipush (v := (120 : Int32)) hx hb dX9_append_21 (by decide) ?_
    refine lv_icmp_ne (tgt := 30) hx hb dX9_append_23 (by decide) (fun c_2 => ?_) (fun c_2 => ?_)
    · skip
      refine lv_iconst (v := (0 : Int32)) hx hb dX9_append_30 (by decide) ?_
      refine muV (A0 := A) (wc := (wMo cy a0 a1 a2 a3 a4 a5 a6 mo)) (As := [.int (0 : Int32)]) (rest := []) (c_X9_refused l D cy a0 a1 a2 a3 a4 a5 a6 mo (0 : Int32)) hCF gX9_append_X9_refused rfl hd_X9_refused ⟨rfl, rfl, Nat.le_of_ble_eq_true rfl, Nat.le_of_ble_eq_true rfl⟩ hG hP hD hS hA [0, 1, 2, 3, 4, 5, 6] rfl c_Mo_Mo h_Mo (ci := 7) rfl rfl g_Mo_0 rfl hl.1 rfl (Nat.le_of_ble_eq_true rfl) dX9_append_31 ⟨Nat.le_refl _, Nat.le_refl _⟩ (fun H locs hP hD hS => ?_)
      have hP : va_P D vwCl (wMo cy a0 a1 a2 a3 a4 a5 a6 (mR' mo (0 : Int32))) H := va_P_eq hP r_Mo_Mo
      have hD : va_D A (wMo cy a0 a1 a2 a3 a4 a5 a6 (mR' mo (0 : Int32))) := va_D_eq hD r_Mo_Mo
      refine lv_if_eq (tgt := 39) hx hb dX9_append_34 (by decide) (fun _ => ?_) (fun c => absurd (rf_lit0 _) c)
      refine lv_aload_n hx hb dX9_append_39 rfl (lv_at hl 0 rfl) ?_
      refine va_get (D := D) (ci := 7) (v := .ref a1) (C := RX9) (T := TX9) (N := 11) hx hb hts in_X9 hown hG.1 hP 0 g_Mo_0 rfl 1 (by decide) k_2 (fun _ h9 => h9) rfl dX9_append_40 ?_
      refine lv_aload_n hx hb dX9_append_43 rfl (lv_at hl 0 rfl) ?_
      refine va_get (D := D) (ci := 7) (v := .int (mZ mo)) (C := RX9) (T := TX9) (N := 11) hx hb hts in_X9 hown hG.1 hP 0 g_Mo_0 rfl 2 (by decide) k_1 (fun _ h9 => h9) rfl dX9_append_44 ?_
      refine lv_iload_n hx hb dX9_append_47 rfl (lv_at hl 1 rfl) ?_
      refine va_iast hx hb hG.1 hP hD hS 1 0 (n := 120) (f := (mT mo)) g_Mo_1 rfl (iv_in (iv_ne120 hZ c_2) (by decide) (by decide)) dX9_append_48 (fun H locs hP hD hS => ?_)
      have hP : va_P D vwCl (wMo cy a0 a1 a2 a3 a4 a5 a6 (mT' (mR' mo (0 : Int32)) (upd (mT mo) (mZ mo).toNatClampNeg x1))) H := va_P_eq hP s_Mo_1
      have hD : va_D A (wMo cy a0 a1 a2 a3 a4 a5 a6 (mT' (mR' mo (0 : Int32)) (upd (mT mo) (mZ mo).toNatClampNeg x1))) := va_D_eq hD s_Mo_1
      refine lv_aload_n hx hb dX9_append_49 rfl (lv_at hl 0 rfl) ?_
      refine lv_dup hx hb dX9_append_50 rfl ?_
      refine va_get (D := D) (ci := 7) (v := .int (mZ mo)) (C := RX9) (T := TX9) (N := 11) hx hb hts in_X9 hown hG.1 hP 0 g_Mo_0 rfl 2 (by decide) k_1 (fun _ h9 => h9) rfl dX9_append_51 ?_
      refine lv_iconst (v := (1 : Int32)) hx hb dX9_append_54 (by decide) ?_
      refine lv_iadd hx hb dX9_append_55 ?_
      refine va_put (D := D) (ci := 7) (v := .int ((mZ mo) + (1 : Int32))) (ty := .int) (C := RX9) (T := TX9) (N := 11) hx hb hts in_X9 tyX9 tyX9_ok nmX9 hown hG.1 hP hD hS 0 g_Mo_0 rfl 2 (by decide) k_1 (fun _ h9 => h9) rfl (by decide +kernel) rfl rfl (Nat.le_of_ble_eq_true rfl) dX9_append_56 (fun H locs hP hD hS => ?_)
      have hP : va_P D vwCl (wMo cy a0 a1 a2 a3 a4 a5 a6 (mZ' (mT' (mR' mo (0 : Int32)) (upd (mT mo) (mZ mo).toNatClampNeg x1)) ((mZ mo) + (1 : Int32)))) H := va_P_eq hP s_Mo_0_2
      have hD : va_D A (wMo cy a0 a1 a2 a3 a4 a5 a6 (mZ' (mT' (mR' mo (0 : Int32)) (upd (mT mo) (mZ mo).toNatClampNeg x1)) ((mZ mo) + (1 : Int32)))) := va_D_eq hD s_Mo_0_2
      refine lv_aload_n hx hb dX9_append_59 rfl (lv_at hl 0 rfl) ?_
      refine va_get (D := D) (ci := 7) (v := .int ((mZ mo) + (1 : Int32))) (C := RX9) (T := TX9) (N := 11) hx hb hts in_X9 hown hG.1 hP 0 g_Mo_0 rfl 2 (by decide) k_1 (fun _ h9 => h9) rfl dX9_append_60 ?_
      exact mu_iret hx hb hr hlocks hP hS dX9_append_63 (by rw [m_X9_append, if_neg c_1, if_neg c_2]) (by rw [m_X9_append, if_neg c_1, if_neg c_2])
    · skip
      refine lv_iconst (v := (2 : Int32)) hx hb dX9_append_26 (by decide) ?_
      refine lv_goto (tgt := 31) hx hb dX9_append_27 (by decide) ?_
      refine muV (A0 := A) (wc := (wMo cy a0 a1 a2 a3 a4 a5 a6 mo)) (As := [.int (2 : Int32)]) (rest := []) (c_X9_refused l D cy a0 a1 a2 a3 a4 a5 a6 mo (2 : Int32)) hCF gX9_append_X9_refused rfl hd_X9_refused ⟨rfl, rfl, Nat.le_of_ble_eq_true rfl, Nat.le_of_ble_eq_true rfl⟩ hG hP hD hS hA [0, 1, 2, 3, 4, 5, 6] rfl c_Mo_Mo h_Mo (ci := 7) rfl rfl g_Mo_0 rfl hl.1 rfl (Nat.le_of_ble_eq_true rfl) dX9_append_31 ⟨Nat.le_refl _, Nat.le_refl _⟩ (fun H locs hP hD hS => ?_)
      have hP : va_P D vwCl (wMo cy a0 a1 a2 a3 a4 a5 a6 (mR' mo (2 : Int32))) H := va_P_eq hP r_Mo_Mo
      have hD : va_D A (wMo cy a0 a1 a2 a3 a4 a5 a6 (mR' mo (2 : Int32))) := va_D_eq hD r_Mo_Mo
      refine lv_if_eq (tgt := 39) hx hb dX9_append_34 (by decide) (fun c => absurd c (rf_lit2 _)) (fun _ => ?_)
      refine lv_iconst (v := (0 : Int32)) hx hb dX9_append_37 (by decide) ?_
      exact mu_iret hx hb hr hlocks hP hS dX9_append_38 (by rw [m_X9_append, if_neg c_1, if_pos c_2]) (by rw [m_X9_append, if_neg c_1, if_pos c_2])
  · skip
    refine lv_iconst (v := (1 : Int32)) hx hb dX9_append_13 (by decide) ?_
    refine lv_goto (tgt := 31) hx hb dX9_append_14 (by decide) ?_
    refine muV (A0 := A) (wc := (wMo cy a0 a1 a2 a3 a4 a5 a6 mo)) (As := [.int (1 : Int32)]) (rest := []) (c_X9_refused l D cy a0 a1 a2 a3 a4 a5 a6 mo (1 : Int32)) hCF gX9_append_X9_refused rfl hd_X9_refused ⟨rfl, rfl, Nat.le_of_ble_eq_true rfl, Nat.le_of_ble_eq_true rfl⟩ hG hP hD hS hA [0, 1, 2, 3, 4, 5, 6] rfl c_Mo_Mo h_Mo (ci := 7) rfl rfl g_Mo_0 rfl hl.1 rfl (Nat.le_of_ble_eq_true rfl) dX9_append_31 ⟨Nat.le_refl _, Nat.le_refl _⟩ (fun H locs hP hD hS => ?_)
    have hP : va_P D vwCl (wMo cy a0 a1 a2 a3 a4 a5 a6 (mR' mo (1 : Int32))) H := va_P_eq hP r_Mo_Mo
    have hD : va_D A (wMo cy a0 a1 a2 a3 a4 a5 a6 (mR' mo (1 : Int32))) := va_D_eq hD r_Mo_Mo
    refine lv_if_eq (tgt := 39) hx hb dX9_append_34 (by decide) (fun c => absurd c (rf_lit1 _)) (fun _ => ?_)
    refine lv_iconst (v := (0 : Int32)) hx hb dX9_append_37 (by decide) ?_
    exact mu_iret hx hb hr hlocks hP hS dX9_append_38 (by rw [m_X9_append, if_pos c_1]) (by rw [m_X9_append, if_pos c_1])
def m_X9_clearText (mo : MoT) : Int32 × MoT := (mZ mo, mZ' (mR' mo (0 : Int32)) (0 : Int32))
theorem hd_X9_clearText : yX9_clearText.cls = RX9 ∧ yX9_clearText.cls ≠ "java/lang/invoke/MethodHandle" ∧ yX9_clearText.cls ≠ "java/lang/invoke/VarHandle" ∧ (parseMethodDescriptor yX9_clearText.desc).map (fun d => d.parameters.length) = some 0 := by decide +kernel
set_option maxHeartbeats 8000000 in
set_option maxRecDepth 20000 in
theorem c_X9_clearText (l : Launch) (D : va_G) (cy : Nat → ClassId) (a0 a1 a2 a3 a4 a5 a6 : Nat) (mo : MoT) : MU l D cy yX9_clearText wsX9_clearText ({ frames := 0, cells := 0, slots := 0, locals := 0 } : Room) (wMo cy a0 a1 a2 a3 a4 a5 a6 mo) (wMo cy a0 a1 a2 a3 a4 a5 a6 (m_X9_clearText mo).2) [.ref a0] (m_X9_clearText mo).1 := by
  refine MU.body (by decide) rfl (Nat.le_of_ble_eq_true rfl) ?_
  intro p e s m below meth c hx hb hml hr hts hown hlocks hP hG ls hl A hD hA hS
  have hl : lv_has ls 2 [(0, .ref a0)] := hl
  have hCF : CallFix p m c cX9_clearText 2 s ([.ref a0] : List Value).toArray wsX9_clearText RX9 := ⟨hx, hb, hml, hown, hts⟩
  have in_X9 : ∀ w ∈ u_ws RX9 TX9 11, w ∈ wsX9_clearText := fun _ h => List.mem_cons_of_mem _ (List.mem_append_right _ h)
  have k_0 := hts (Cond.fieldLink RX9 33 "SparePoolModel" "refusal" "I") (List.mem_of_getElem? (i := 1) rfl)
  have k_1 := hts (Cond.fieldLink RX9 113 "SparePoolModel" "size" "I") (List.mem_of_getElem? (i := 2) rfl)
  have hP : va_P D vwCl (wMo cy a0 a1 a2 a3 a4 a5 a6 mo) s.heap := hP
  refine lv_aload_n hx hb dX9_clearText_0 rfl (lv_at hl 0 rfl) ?_
  refine lv_iconst (v := (0 : Int32)) hx hb dX9_clearText_1 (by decide) ?_
  refine va_put (D := D) (ci := 7) (v := .int (0 : Int32)) (ty := .int) (C := RX9) (T := TX9) (N := 11) hx hb hts in_X9 tyX9 tyX9_ok nmX9 hown hG.1 hP hD hS 0 g_Mo_0 rfl 0 (by decide) k_0 (fun _ h9 => h9) rfl (by decide +kernel) rfl rfl (Nat.le_of_ble_eq_true rfl) dX9_clearText_2 (fun H locs hP hD hS => ?_)
  have hP : va_P D vwCl (wMo cy a0 a1 a2 a3 a4 a5 a6 (mR' mo (0 : Int32))) H := va_P_eq hP s_Mo_0_0
  have hD : va_D A (wMo cy a0 a1 a2 a3 a4 a5 a6 (mR' mo (0 : Int32))) := va_D_eq hD s_Mo_0_0
  refine lv_aload_n hx hb dX9_clearText_5 rfl (lv_at hl 0 rfl) ?_
  refine va_get (D := D) (ci := 7) (v := .int (mZ mo)) (C := RX9) (T := TX9) (N := 11) hx hb hts in_X9 hown hG.1 hP 0 g_Mo_0 rfl 2 (by decide) k_1 (fun _ h9 => h9) rfl dX9_clearText_6 ?_
  refine lv_istore_n (lv' := [(1, .int (mZ mo)), (0, .ref a0)]) hx hb dX9_clearText_9 rfl hl (by decide) rfl (fun ls hl => ?_)
  refine lv_aload_n hx hb dX9_clearText_10 rfl (lv_at hl 1 rfl) ?_
  refine lv_iconst (v := (0 : Int32)) hx hb dX9_clearText_11 (by decide) ?_
  refine va_put (D := D) (ci := 7) (v := .int (0 : Int32)) (ty := .int) (C := RX9) (T := TX9) (N := 11) hx hb hts in_X9 tyX9 tyX9_ok nmX9 hown hG.1 hP hD hS 0 g_Mo_0 rfl 2 (by decide) k_1 (fun _ h9 => h9) rfl (by decide +kernel) rfl rfl (Nat.le_of_ble_eq_true rfl) dX9_clearText_12 (fun H locs hP hD hS => ?_)
  have hP : va_P D vwCl (wMo cy a0 a1 a2 a3 a4 a5 a6 (mZ' (mR' mo (0 : Int32)) (0 : Int32))) H := va_P_eq hP s_Mo_0_2
  have hD : va_D A (wMo cy a0 a1 a2 a3 a4 a5 a6 (mZ' (mR' mo (0 : Int32)) (0 : Int32))) := va_D_eq hD s_Mo_0_2
  refine lv_iload_n hx hb dX9_clearText_15 rfl (lv_at hl 0 rfl) ?_
  exact mu_iret hx hb hr hlocks hP hS dX9_clearText_16 (by rw [m_X9_clearText]) (by rw [m_X9_clearText])
def m_X9_remember_L11 : Nat → MoT → Int32 → MoT
  | 0, r, _ => r
  | nF + 1, r, k => if (4979 : Int32) ≤ k then mA' (mD' r (m_X9_copyState (mN r) (mD r) (0 : Int32) ((383 : Int32) * ((mA r) - (1 : Int32))))) (((mA r) - (1 : Int32)) + (1 : Int32)) else m_X9_remember_L11 nF (mD' r (upd (mD r) k.toNatClampNeg ((mD r) (k + (383 : Int32)).toNatClampNeg))) (k + (1 : Int32))
def m_X9_remember (mo : MoT) : MoT := if (mA mo) = (14 : Int32) then m_X9_remember_L11 10000 mo (0 : Int32) else mA' (mD' mo (m_X9_copyState (mN mo) (mD mo) (0 : Int32) ((383 : Int32) * (mA mo)))) ((mA mo) + (1 : Int32))
theorem hd_X9_remember : yX9_remember.cls = RX9 ∧ yX9_remember.cls ≠ "java/lang/invoke/MethodHandle" ∧ yX9_remember.cls ≠ "java/lang/invoke/VarHandle" ∧ (parseMethodDescriptor yX9_remember.desc).map (fun d => d.parameters.length) = some 0 := by decide +kernel
set_option maxHeartbeats 8000000 in
set_option maxRecDepth 20000 in
theorem c_X9_remember (l : Launch) (D : va_G) (cy : Nat → ClassId) (a0 a1 a2 a3 a4 a5 a6 : Nat) (mo : MoT) (hAc : iv 0 14 (mA mo)) : MV l D cy yX9_remember wsX9_remember ({ frames := 1, cells := 0, slots := 0, locals := 24 } : Room) (wMo cy a0 a1 a2 a3 a4 a5 a6 mo) (wMo cy a0 a1 a2 a3 a4 a5 a6 (m_X9_remember mo)) [.ref a0] := by
  refine MV.body (by decide) rfl (Nat.le_of_ble_eq_true rfl) ?_
  intro p e s m below meth c hx hb hml hr hts hown hlocks hP hG ls hl A hD hA hS
  have hl : lv_has ls 2 [(0, .ref a0)] := hl
  have hCF : CallFix p m c cX9_remember 2 s ([.ref a0] : List Value).toArray wsX9_remember RX9 := ⟨hx, hb, hml, hown, hts⟩
  have in_X9 : ∀ w ∈ u_ws RX9 TX9 11, w ∈ wsX9_remember := fun _ h => List.mem_cons_of_mem _ (List.mem_append_right _ h)
  have k_0 := hts (Cond.fieldLink RX9 201 "SparePoolModel" "acts" "I") (List.mem_of_getElem? (i := 1) rfl)
  have k_1 := hts (Cond.fieldLink RX9 13 "SparePoolModel" "now" "[I") (List.mem_of_getElem? (i := 3) rfl)
  have k_2 := hts (Cond.fieldLink RX9 19 "SparePoolModel" "diary" "[I") (List.mem_of_getElem? (i := 2) rfl)
  have hP : va_P D vwCl (wMo cy a0 a1 a2 a3 a4 a5 a6 mo) s.heap := hP
  have L_11 : ∀ (nF : Nat) (r : MoT) (k : Int32), 0 ≤ k.toInt → mA r = 14 → ((4979 : Int32).toInt - k.toInt).toNat < nF → m_X9_remember_L11 nF r k = (m_X9_remember mo) → ∀ (H : Heap) (locs : List Loc), va_P D vwCl (wMo cy a0 a1 a2 a3 a4 a5 a6 r) H → va_D A (wMo cy a0 a1 a2 a3 a4 a5 a6 r) → va_S A s.heap H locs → ∀ ls : Array Slot, lv_has ls 2 [(0, .ref a0), (1, .int k)] → W p l e ({ frames := 1, cells := 0, slots := 0, locals := 24 } : Room) s m ([.ref a0] : List Value).toArray below meth c H locs 0 0 (MQ below (va_Qv (fun (_ : Unit) => True) (fun _ t => va_P D vwCl (wMo cy a0 a1 a2 a3 a4 a5 a6 (m_X9_remember mo)) t.heap) A) ([.ref a0] : List Value).toArray s 0 0 A) (F0 m 11 ls []) := by
    intro nF
    induction nF with
    | zero => intro r k h0 ha hm; exact absurd hm (Nat.not_lt_zero _)
    | succ nF ih =>
      intro r k h0 ha hm hQ H locs hP hD hS ls hl
      refine lv_iload_n hx hb dX9_remember_11 rfl (lv_at hl 1 rfl) ?_
      refine lv_sipush (v := (4979 : Int32)) hx hb dX9_remember_12 (by decide) ?_
      refine lv_icmp_ge (tgt := 40) hx hb dX9_remember_15 (by decide) (fun c_1 => ?_) (fun c_1 => ?_)
      · skip
        refine lv_aload_n hx hb dX9_remember_40 rfl (lv_at hl 0 rfl) ?_
        refine lv_dup hx hb dX9_remember_41 rfl ?_
        refine va_get (D := D) (ci := 7) (v := .int (mA r)) (C := RX9) (T := TX9) (N := 11) hx hb hts in_X9 hown hG.1 hP 0 g_Mo_0 rfl 6 (by decide) k_0 (fun _ h9 => h9) rfl dX9_remember_42 ?_
        refine lv_iconst (v := (1 : Int32)) hx hb dX9_remember_45 (by decide) ?_
        refine lv_isub hx hb dX9_remember_46 ?_
        refine va_put (D := D) (ci := 7) (v := .int ((mA r) - (1 : Int32))) (ty := .int) (C := RX9) (T := TX9) (N := 11) hx hb hts in_X9 tyX9 tyX9_ok nmX9 hown hG.1 hP hD hS 0 g_Mo_0 rfl 6 (by decide) k_0 (fun _ h9 => h9) rfl (by decide +kernel) rfl rfl (Nat.le_of_ble_eq_true rfl) dX9_remember_47 (fun H locs hP hD hS => ?_)
        have hP : va_P D vwCl (wMo cy a0 a1 a2 a3 a4 a5 a6 (mA' r ((mA r) - (1 : Int32)))) H := va_P_eq hP s_Mo_0_6
        have hD : va_D A (wMo cy a0 a1 a2 a3 a4 a5 a6 (mA' r ((mA r) - (1 : Int32)))) := va_D_eq hD s_Mo_0_6
        refine lv_aload_n hx hb dX9_remember_50 rfl (lv_at hl 0 rfl) ?_
        refine va_get (D := D) (ci := 7) (v := .ref a2) (C := RX9) (T := TX9) (N := 11) hx hb hts in_X9 hown hG.1 hP 0 g_Mo_0 rfl 3 (by decide) k_1 (fun _ h9 => h9) rfl dX9_remember_51 ?_
        refine lv_iconst (v := (0 : Int32)) hx hb dX9_remember_54 (by decide) ?_
        refine lv_aload_n hx hb dX9_remember_55 rfl (lv_at hl 0 rfl) ?_
        refine va_get (D := D) (ci := 7) (v := .ref a4) (C := RX9) (T := TX9) (N := 11) hx hb hts in_X9 hown hG.1 hP 0 g_Mo_0 rfl 5 (by decide) k_2 (fun _ h9 => h9) rfl dX9_remember_56 ?_
        refine lv_sipush (v := (383 : Int32)) hx hb dX9_remember_59 (by decide) ?_
        refine lv_aload_n hx hb dX9_remember_62 rfl (lv_at hl 0 rfl) ?_
        refine va_get (D := D) (ci := 7) (v := .int ((mA r) - (1 : Int32))) (C := RX9) (T := TX9) (N := 11) hx hb hts in_X9 hown hG.1 hP 0 g_Mo_0 rfl 6 (by decide) k_0 (fun _ h9 => h9) rfl dX9_remember_63 ?_
        refine lv_imul hx hb dX9_remember_66 ?_
        refine mvS (A0 := A) (wc := (wCp cy a2 a4 383 5362 (mN r) (mD r))) (As := [.ref a2, .int (0 : Int32), .ref a4, .int ((383 : Int32) * ((mA r) - (1 : Int32)))]) (rest := []) (c_X9_copyState l D cy a2 a4 383 5362 (mN r) (mD r) (0 : Int32) ((383 : Int32) * ((mA r) - (1 : Int32))) (cp_iv (iv_lit (v := 0) (by decide)) (by decide)) (cp_iv (iv_mul (l := 4979) (h := 4979) (iv_lit (v := 383) (by decide)) (iv_sub (l := 13) (h := 13) (iv_eq (v := 14) ha (by decide)) (iv_lit (v := 1) (by decide)) (by decide)) (by decide)) (by decide))) hCF gX9_remember_X9_copyState rfl hd_X9_copyState ⟨rfl, rfl, Nat.le_of_ble_eq_true rfl, Nat.le_of_ble_eq_true rfl⟩ hG hP hD hS hA [2, 4] rfl c_Mo_Cp24 h_Cp rfl hl.1 rfl (Nat.le_of_ble_eq_true rfl) dX9_remember_67 ⟨Nat.le_refl _, Nat.le_refl _⟩ (fun H locs hP hD hS => ?_)
        have hP : va_P D vwCl (wMo cy a0 a1 a2 a3 a4 a5 a6 (mD' (mA' r ((mA r) - (1 : Int32))) (m_X9_copyState (mN r) (mD r) (0 : Int32) ((383 : Int32) * ((mA r) - (1 : Int32)))))) H := va_P_eq hP r_Mo_Cp24
        have hD : va_D A (wMo cy a0 a1 a2 a3 a4 a5 a6 (mD' (mA' r ((mA r) - (1 : Int32))) (m_X9_copyState (mN r) (mD r) (0 : Int32) ((383 : Int32) * ((mA r) - (1 : Int32)))))) := va_D_eq hD r_Mo_Cp24
        refine lv_aload_n hx hb dX9_remember_70 rfl (lv_at hl 0 rfl) ?_
        refine lv_dup hx hb dX9_remember_71 rfl ?_
        refine va_get (D := D) (ci := 7) (v := .int ((mA r) - (1 : Int32))) (C := RX9) (T := TX9) (N := 11) hx hb hts in_X9 hown hG.1 hP 0 g_Mo_0 rfl 6 (by decide) k_0 (fun _ h9 => h9) rfl dX9_remember_72 ?_
        refine lv_iconst (v := (1 : Int32)) hx hb dX9_remember_75 (by decide) ?_
        refine lv_iadd hx hb dX9_remember_76 ?_
        refine va_put (D := D) (ci := 7) (v := .int (((mA r) - (1 : Int32)) + (1 : Int32))) (ty := .int) (C := RX9) (T := TX9) (N := 11) hx hb hts in_X9 tyX9 tyX9_ok nmX9 hown hG.1 hP hD hS 0 g_Mo_0 rfl 6 (by decide) k_0 (fun _ h9 => h9) rfl (by decide +kernel) rfl rfl (Nat.le_of_ble_eq_true rfl) dX9_remember_77 (fun H locs hP hD hS => ?_)
        have hP : va_P D vwCl (wMo cy a0 a1 a2 a3 a4 a5 a6 (mA' (mD' r (m_X9_copyState (mN r) (mD r) (0 : Int32) ((383 : Int32) * ((mA r) - (1 : Int32))))) (((mA r) - (1 : Int32)) + (1 : Int32)))) H := va_P_eq hP s_Mo_0_6
        have hD : va_D A (wMo cy a0 a1 a2 a3 a4 a5 a6 (mA' (mD' r (m_X9_copyState (mN r) (mD r) (0 : Int32) ((383 : Int32) * ((mA r) - (1 : Int32))))) (((mA r) - (1 : Int32)) + (1 : Int32)))) := va_D_eq hD s_Mo_0_6
        exact mu_vret hx hb hr hlocks hP hS dX9_remember_80 (by rw [← hQ, m_X9_remember_L11, if_pos c_1])
      · skip
        refine lv_aload_n hx hb dX9_remember_18 rfl (lv_at hl 0 rfl) ?_
        refine va_get (D := D) (ci := 7) (v := .ref a4) (C := RX9) (T := TX9) (N := 11) hx hb hts in_X9 hown hG.1 hP 0 g_Mo_0 rfl 5 (by decide) k_2 (fun _ h9 => h9) rfl dX9_remember_19 ?_
        refine lv_iload_n hx hb dX9_remember_22 rfl (lv_at hl 1 rfl) ?_
        refine lv_aload_n hx hb dX9_remember_23 rfl (lv_at hl 0 rfl) ?_
        refine va_get (D := D) (ci := 7) (v := .ref a4) (C := RX9) (T := TX9) (N := 11) hx hb hts in_X9 hown hG.1 hP 0 g_Mo_0 rfl 5 (by decide) k_2 (fun _ h9 => h9) rfl dX9_remember_24 ?_
        refine lv_iload_n hx hb dX9_remember_27 rfl (lv_at hl 1 rfl) ?_
        refine lv_sipush (v := (383 : Int32)) hx hb dX9_remember_28 (by decide) ?_
        refine lv_iadd hx hb dX9_remember_31 ?_
        refine va_iald hx hb hG.1 hP 4 0 (n := 5362) (f := (mD r)) g_Mo_4 rfl (iv_in (iv_add (l := 383) (h := 5361) (iv_loop (M := 4979) (h := 4978) h0 c_1 ((by decide)) (by decide)) (iv_lit (v := 383) (by decide)) (by decide)) (by decide) (by decide)) dX9_remember_32 ?_
        refine va_iast hx hb hG.1 hP hD hS 4 0 (n := 5362) (f := (mD r)) g_Mo_4 rfl (bd_loop h0 c_1 ((by decide))) dX9_remember_33 (fun H locs hP hD hS => ?_)
        have hP : va_P D vwCl (wMo cy a0 a1 a2 a3 a4 a5 a6 (mD' r (upd (mD r) k.toNatClampNeg ((mD r) (k + (383 : Int32)).toNatClampNeg)))) H := va_P_eq hP s_Mo_4
        have hD : va_D A (wMo cy a0 a1 a2 a3 a4 a5 a6 (mD' r (upd (mD r) k.toNatClampNeg ((mD r) (k + (383 : Int32)).toNatClampNeg)))) := va_D_eq hD s_Mo_4
        refine lv_iinc (v := (k + (1 : Int32))) (lv' := [(1, .int (k + (1 : Int32))), (0, .ref a0)]) hx hb dX9_remember_34 hl (k := 1) rfl rfl (by decide) rfl (fun ls hl => ?_)
        refine lv_goto (tgt := 11) hx hb dX9_remember_37 (by decide) ?_
        exact ih  (mD' r (upd (mD r) k.toNatClampNeg ((mD r) (k + (383 : Int32)).toNatClampNeg))) (k + (1 : Int32)) (lp_up h0 c_1) ha (lp_dec h0 c_1 hm) (by rw [← hQ, m_X9_remember_L11, if_neg c_1]) H locs hP hD hS ls (lv_sub hl [1, 0] rfl)
  refine lv_aload_n hx hb dX9_remember_0 rfl (lv_at hl 0 rfl) ?_
  refine va_get (D := D) (ci := 7) (v := .int (mA mo)) (C := RX9) (T := TX9) (N := 11) hx hb hts in_X9 hown hG.1 hP 0 g_Mo_0 rfl 6 (by decide) k_0 (fun _ h9 => h9) rfl dX9_remember_1 ?_
  refine lv_bipush (v := (14 : Int32)) hx hb dX9_remember_4 (by decide) ?_
  refine lv_icmp_ne (tgt := 50) hx hb dX9_remember_6 (by decide) (fun c_2 => ?_) (fun c_2 => ?_)
  · skip
    refine lv_aload_n hx hb dX9_remember_50 rfl (lv_at hl 0 rfl) ?_
    refine va_get (D := D) (ci := 7) (v := .ref a2) (C := RX9) (T := TX9) (N := 11) hx hb hts in_X9 hown hG.1 hP 0 g_Mo_0 rfl 3 (by decide) k_1 (fun _ h9 => h9) rfl dX9_remember_51 ?_
    refine lv_iconst (v := (0 : Int32)) hx hb dX9_remember_54 (by decide) ?_
    refine lv_aload_n hx hb dX9_remember_55 rfl (lv_at hl 0 rfl) ?_
    refine va_get (D := D) (ci := 7) (v := .ref a4) (C := RX9) (T := TX9) (N := 11) hx hb hts in_X9 hown hG.1 hP 0 g_Mo_0 rfl 5 (by decide) k_2 (fun _ h9 => h9) rfl dX9_remember_56 ?_
    refine lv_sipush (v := (383 : Int32)) hx hb dX9_remember_59 (by decide) ?_
    refine lv_aload_n hx hb dX9_remember_62 rfl (lv_at hl 0 rfl) ?_
    refine va_get (D := D) (ci := 7) (v := .int (mA mo)) (C := RX9) (T := TX9) (N := 11) hx hb hts in_X9 hown hG.1 hP 0 g_Mo_0 rfl 6 (by decide) k_0 (fun _ h9 => h9) rfl dX9_remember_63 ?_
    refine lv_imul hx hb dX9_remember_66 ?_
    refine mvS (A0 := A) (wc := (wCp cy a2 a4 383 5362 (mN mo) (mD mo))) (As := [.ref a2, .int (0 : Int32), .ref a4, .int ((383 : Int32) * (mA mo))]) (rest := []) (c_X9_copyState l D cy a2 a4 383 5362 (mN mo) (mD mo) (0 : Int32) ((383 : Int32) * (mA mo)) (cp_iv (iv_lit (v := 0) (by decide)) (by decide)) (cp_iv (iv_mul (l := 0) (h := 4979) (iv_lit (v := 383) (by decide)) (iv_ne14 hAc c_2) (by decide)) (by decide))) hCF gX9_remember_X9_copyState rfl hd_X9_copyState ⟨rfl, rfl, Nat.le_of_ble_eq_true rfl, Nat.le_of_ble_eq_true rfl⟩ hG hP hD hS hA [2, 4] rfl c_Mo_Cp24 h_Cp rfl hl.1 rfl (Nat.le_of_ble_eq_true rfl) dX9_remember_67 ⟨Nat.le_refl _, Nat.le_refl _⟩ (fun H locs hP hD hS => ?_)
    have hP : va_P D vwCl (wMo cy a0 a1 a2 a3 a4 a5 a6 (mD' mo (m_X9_copyState (mN mo) (mD mo) (0 : Int32) ((383 : Int32) * (mA mo))))) H := va_P_eq hP r_Mo_Cp24
    have hD : va_D A (wMo cy a0 a1 a2 a3 a4 a5 a6 (mD' mo (m_X9_copyState (mN mo) (mD mo) (0 : Int32) ((383 : Int32) * (mA mo))))) := va_D_eq hD r_Mo_Cp24
    refine lv_aload_n hx hb dX9_remember_70 rfl (lv_at hl 0 rfl) ?_
    refine lv_dup hx hb dX9_remember_71 rfl ?_
    refine va_get (D := D) (ci := 7) (v := .int (mA mo)) (C := RX9) (T := TX9) (N := 11) hx hb hts in_X9 hown hG.1 hP 0 g_Mo_0 rfl 6 (by decide) k_0 (fun _ h9 => h9) rfl dX9_remember_72 ?_
    refine lv_iconst (v := (1 : Int32)) hx hb dX9_remember_75 (by decide) ?_
    refine lv_iadd hx hb dX9_remember_76 ?_
    refine va_put (D := D) (ci := 7) (v := .int ((mA mo) + (1 : Int32))) (ty := .int) (C := RX9) (T := TX9) (N := 11) hx hb hts in_X9 tyX9 tyX9_ok nmX9 hown hG.1 hP hD hS 0 g_Mo_0 rfl 6 (by decide) k_0 (fun _ h9 => h9) rfl (by decide +kernel) rfl rfl (Nat.le_of_ble_eq_true rfl) dX9_remember_77 (fun H locs hP hD hS => ?_)
    have hP : va_P D vwCl (wMo cy a0 a1 a2 a3 a4 a5 a6 (mA' (mD' mo (m_X9_copyState (mN mo) (mD mo) (0 : Int32) ((383 : Int32) * (mA mo)))) ((mA mo) + (1 : Int32)))) H := va_P_eq hP s_Mo_0_6
    have hD : va_D A (wMo cy a0 a1 a2 a3 a4 a5 a6 (mA' (mD' mo (m_X9_copyState (mN mo) (mD mo) (0 : Int32) ((383 : Int32) * (mA mo)))) ((mA mo) + (1 : Int32)))) := va_D_eq hD s_Mo_0_6
    exact mu_vret hx hb hr hlocks hP hS dX9_remember_80 (by rw [m_X9_remember, if_neg c_2])
  · skip
    refine lv_iconst (v := (0 : Int32)) hx hb dX9_remember_9 (by decide) ?_
    refine lv_istore_n (lv' := [(1, .int (0 : Int32)), (0, .ref a0)]) hx hb dX9_remember_10 rfl hl (by decide) rfl (fun ls hl => ?_)
    exact L_11 10000 mo (0 : Int32) (by decide) c_2 (lp_init (M := 4979) (by decide) (by decide)) (by rw [m_X9_remember, if_pos c_2]) s.heap [] hP hD hS ls (lv_sub hl [1, 0] rfl)
theorem rem_LN (nF : Nat) : ∀ (r : MoT) (k : Int32), mN (m_X9_remember_L11 nF r k) = mN r := by
  induction nF with
  | zero => intro r k; rfl
  | succ nF ih =>
    intro r k
    rw [m_X9_remember_L11]
    split
    · simp only [mN_mA', mN_mD']
    · rw [ih, mN_mD']
theorem rem_N (mo : MoT) : mN (m_X9_remember mo) = mN mo := by
  unfold m_X9_remember
  split
  · exact rem_LN _ _ _
  · simp only [mN_mA', mN_mD']
theorem rem_ok {mo : MoT} (h : rOK (mN mo)) : rOK (mN (m_X9_remember mo)) := by rw [rem_N]; exact h
def m_X9_come (mo : MoT) (x1 : Int32) (x2 : Int32) (x3 : Int32) : Int32 × MoT := if (m_X9_refused mo (m_X9_whyNotCome (mN mo) x1 x2 x3)).1 = (0 : Int32) then ((m_X9_comeOn (mN (m_X9_remember (mR' mo (m_X9_whyNotCome (mN mo) x1 x2 x3)))) x1 x2 x3).1, mN' (m_X9_remember (mR' mo (m_X9_whyNotCome (mN mo) x1 x2 x3))) (m_X9_comeOn (mN (m_X9_remember (mR' mo (m_X9_whyNotCome (mN mo) x1 x2 x3)))) x1 x2 x3).2) else ((0 : Int32), mR' mo (m_X9_whyNotCome (mN mo) x1 x2 x3))
theorem hd_X9_come : yX9_come.cls = RX9 ∧ yX9_come.cls ≠ "java/lang/invoke/MethodHandle" ∧ yX9_come.cls ≠ "java/lang/invoke/VarHandle" ∧ (parseMethodDescriptor yX9_come.desc).map (fun d => d.parameters.length) = some 3 := by decide +kernel
set_option maxHeartbeats 8000000 in
set_option maxRecDepth 20000 in
theorem c_X9_come (l : Launch) (D : va_G) (cy : Nat → ClassId) (a0 a1 a2 a3 a4 a5 a6 : Nat) (mo : MoT) (x1 : Int32) (x2 : Int32) (x3 : Int32) (hM : rOK (mN mo)) (hAc : iv 0 14 (mA mo)) : MU l D cy yX9_come wsX9_come ({ frames := 3, cells := 0, slots := 0, locals := 68 } : Room) (wMo cy a0 a1 a2 a3 a4 a5 a6 mo) (wMo cy a0 a1 a2 a3 a4 a5 a6 (m_X9_come mo x1 x2 x3).2) [.ref a0, .int x1, .int x2, .int x3] (m_X9_come mo x1 x2 x3).1 := by
  refine MU.body (by decide) rfl (Nat.le_of_ble_eq_true rfl) ?_
  intro p e s m below meth c hx hb hml hr hts hown hlocks hP hG ls hl A hD hA hS
  have hl : lv_has ls 4 [(0, .ref a0), (1, .int x1), (2, .int x2), (3, .int x3)] := hl
  have hCF : CallFix p m c cX9_come 4 s ([.ref a0, .int x1, .int x2, .int x3] : List Value).toArray wsX9_come RX9 := ⟨hx, hb, hml, hown, hts⟩
  have in_X9 : ∀ w ∈ u_ws RX9 TX9 11, w ∈ wsX9_come := fun _ h => List.mem_cons_of_mem _ (List.mem_append_right _ h)
  have k_0 := hts (Cond.fieldLink RX9 13 "SparePoolModel" "now" "[I") (List.mem_of_getElem? (i := 1) rfl)
  have hP : va_P D vwCl (wMo cy a0 a1 a2 a3 a4 a5 a6 mo) s.heap := hP
  refine lv_aload_n hx hb dX9_come_0 rfl (lv_at hl 0 rfl) ?_
  refine lv_aload_n hx hb dX9_come_1 rfl (lv_at hl 0 rfl) ?_
  refine va_get (D := D) (ci := 7) (v := .ref a2) (C := RX9) (T := TX9) (N := 11) hx hb hts in_X9 hown hG.1 hP 0 g_Mo_0 rfl 3 (by decide) k_0 (fun _ h9 => h9) rfl dX9_come_2 ?_
  refine lv_iload_n hx hb dX9_come_5 rfl (lv_at hl 1 rfl) ?_
  refine lv_iload_n hx hb dX9_come_6 rfl (lv_at hl 2 rfl) ?_
  refine lv_iload_n hx hb dX9_come_7 rfl (lv_at hl 3 rfl) ?_
  refine roS (wc := (wAr cy a2 (mN mo))) (As := [.ref a2, .int x1, .int x2, .int x3]) (rest := [.ref a0]) (c_X9_whyNotCome l D cy a2 (mN mo) x1 x2 x3) hCF gX9_come_X9_whyNotCome rfl hd_X9_whyNotCome ⟨rfl, rfl, Nat.le_of_ble_eq_true rfl, Nat.le_of_ble_eq_true rfl⟩ hG (hP.sub (ws' := (wAr cy a2 (mN mo))) [2] u_Mo_Ar2) rfl hl.1 rfl (Nat.le_of_ble_eq_true rfl) dX9_come_8 ⟨Nat.le_refl _, Nat.le_refl _⟩ ?_
  refine muV (A0 := A) (wc := (wMo cy a0 a1 a2 a3 a4 a5 a6 mo)) (As := [.int (m_X9_whyNotCome (mN mo) x1 x2 x3)]) (rest := []) (c_X9_refused l D cy a0 a1 a2 a3 a4 a5 a6 mo (m_X9_whyNotCome (mN mo) x1 x2 x3)) hCF gX9_come_X9_refused rfl hd_X9_refused ⟨rfl, rfl, Nat.le_of_ble_eq_true rfl, Nat.le_of_ble_eq_true rfl⟩ hG hP hD hS hA [0, 1, 2, 3, 4, 5, 6] rfl c_Mo_Mo h_Mo (ci := 7) rfl rfl g_Mo_0 rfl hl.1 rfl (Nat.le_of_ble_eq_true rfl) dX9_come_11 ⟨Nat.le_refl _, Nat.le_refl _⟩ (fun H locs hP hD hS => ?_)
  have hP : va_P D vwCl (wMo cy a0 a1 a2 a3 a4 a5 a6 (mR' mo (m_X9_whyNotCome (mN mo) x1 x2 x3))) H := va_P_eq hP r_Mo_Mo
  have hD : va_D A (wMo cy a0 a1 a2 a3 a4 a5 a6 (mR' mo (m_X9_whyNotCome (mN mo) x1 x2 x3))) := va_D_eq hD r_Mo_Mo
  refine lv_if_eq (tgt := 19) hx hb dX9_come_14 (by decide) (fun c_1 => ?_) (fun c_1 => ?_)
  · skip
    refine lv_aload_n hx hb dX9_come_19 rfl (lv_at hl 0 rfl) ?_
    refine mvV (A0 := A) (wc := (wMo cy a0 a1 a2 a3 a4 a5 a6 (mR' mo (m_X9_whyNotCome (mN mo) x1 x2 x3)))) (As := []) (rest := []) (c_X9_remember l D cy a0 a1 a2 a3 a4 a5 a6 (mR' mo (m_X9_whyNotCome (mN mo) x1 x2 x3)) hAc) hCF gX9_come_X9_remember rfl hd_X9_remember ⟨rfl, rfl, Nat.le_of_ble_eq_true rfl, Nat.le_of_ble_eq_true rfl⟩ hG hP hD hS hA [0, 1, 2, 3, 4, 5, 6] rfl c_Mo_Mo h_Mo (ci := 7) rfl rfl g_Mo_0 rfl hl.1 rfl (Nat.le_of_ble_eq_true rfl) dX9_come_20 ⟨Nat.le_refl _, Nat.le_refl _⟩ (fun H locs hP hD hS => ?_)
    have hP : va_P D vwCl (wMo cy a0 a1 a2 a3 a4 a5 a6 (m_X9_remember (mR' mo (m_X9_whyNotCome (mN mo) x1 x2 x3)))) H := va_P_eq hP r_Mo_Mo
    have hD : va_D A (wMo cy a0 a1 a2 a3 a4 a5 a6 (m_X9_remember (mR' mo (m_X9_whyNotCome (mN mo) x1 x2 x3)))) := va_D_eq hD r_Mo_Mo
    refine lv_aload_n hx hb dX9_come_23 rfl (lv_at hl 0 rfl) ?_
    refine va_get (D := D) (ci := 7) (v := .ref a2) (C := RX9) (T := TX9) (N := 11) hx hb hts in_X9 hown hG.1 hP 0 g_Mo_0 rfl 3 (by decide) k_0 (fun _ h9 => h9) rfl dX9_come_24 ?_
    refine lv_iload_n hx hb dX9_come_27 rfl (lv_at hl 1 rfl) ?_
    refine lv_iload_n hx hb dX9_come_28 rfl (lv_at hl 2 rfl) ?_
    refine lv_iload_n hx hb dX9_come_29 rfl (lv_at hl 3 rfl) ?_
    refine muS (A0 := A) (wc := (wAr cy a2 (mN (m_X9_remember (mR' mo (m_X9_whyNotCome (mN mo) x1 x2 x3)))))) (As := [.ref a2, .int x1, .int x2, .int x3]) (rest := []) (c_X9_comeOn l D cy a2 (mN (m_X9_remember (mR' mo (m_X9_whyNotCome (mN mo) x1 x2 x3)))) x1 x2 x3 (by rw [rem_N]; exact wn_Come_n hM (rf_zero (wn_nn_Come _ _ _ _) c_1))) hCF gX9_come_X9_comeOn rfl hd_X9_comeOn ⟨rfl, rfl, Nat.le_of_ble_eq_true rfl, Nat.le_of_ble_eq_true rfl⟩ hG hP hD hS hA [2] rfl c_Mo_Ar2 h_Ar rfl hl.1 rfl (Nat.le_of_ble_eq_true rfl) dX9_come_30 ⟨Nat.le_refl _, Nat.le_refl _⟩ (fun H locs hP hD hS => ?_)
    have hP : va_P D vwCl (wMo cy a0 a1 a2 a3 a4 a5 a6 (mN' (m_X9_remember (mR' mo (m_X9_whyNotCome (mN mo) x1 x2 x3))) (m_X9_comeOn (mN (m_X9_remember (mR' mo (m_X9_whyNotCome (mN mo) x1 x2 x3)))) x1 x2 x3).2)) H := va_P_eq hP r_Mo_Ar2
    have hD : va_D A (wMo cy a0 a1 a2 a3 a4 a5 a6 (mN' (m_X9_remember (mR' mo (m_X9_whyNotCome (mN mo) x1 x2 x3))) (m_X9_comeOn (mN (m_X9_remember (mR' mo (m_X9_whyNotCome (mN mo) x1 x2 x3)))) x1 x2 x3).2)) := va_D_eq hD r_Mo_Ar2
    exact mu_iret hx hb hr hlocks hP hS dX9_come_33 (by rw [m_X9_come, if_pos c_1]) (by rw [m_X9_come, if_pos c_1])
  · skip
    refine lv_iconst (v := (0 : Int32)) hx hb dX9_come_17 (by decide) ?_
    exact mu_iret hx hb hr hlocks hP hS dX9_come_18 (by rw [m_X9_come, if_neg c_1]) (by rw [m_X9_come, if_neg c_1])
def m_X9_lend (mo : MoT) (x1 : Int32) (x2 : Int32) (x3 : Int32) : Int32 × MoT := if (m_X9_refused mo (m_X9_whyNotLend (mN mo) x1 x2 x3)).1 = (0 : Int32) then ((m_X9_lendOn (mN (m_X9_remember (mR' mo (m_X9_whyNotLend (mN mo) x1 x2 x3)))) x1 x2 x3).1, mN' (m_X9_remember (mR' mo (m_X9_whyNotLend (mN mo) x1 x2 x3))) (m_X9_lendOn (mN (m_X9_remember (mR' mo (m_X9_whyNotLend (mN mo) x1 x2 x3)))) x1 x2 x3).2) else ((0 : Int32), mR' mo (m_X9_whyNotLend (mN mo) x1 x2 x3))
theorem hd_X9_lend : yX9_lend.cls = RX9 ∧ yX9_lend.cls ≠ "java/lang/invoke/MethodHandle" ∧ yX9_lend.cls ≠ "java/lang/invoke/VarHandle" ∧ (parseMethodDescriptor yX9_lend.desc).map (fun d => d.parameters.length) = some 3 := by decide +kernel
set_option maxHeartbeats 8000000 in
set_option maxRecDepth 20000 in
theorem c_X9_lend (l : Launch) (D : va_G) (cy : Nat → ClassId) (a0 a1 a2 a3 a4 a5 a6 : Nat) (mo : MoT) (x1 : Int32) (x2 : Int32) (x3 : Int32) (hM : rOK (mN mo)) (hAc : iv 0 14 (mA mo)) : MU l D cy yX9_lend wsX9_lend ({ frames := 3, cells := 0, slots := 0, locals := 69 } : Room) (wMo cy a0 a1 a2 a3 a4 a5 a6 mo) (wMo cy a0 a1 a2 a3 a4 a5 a6 (m_X9_lend mo x1 x2 x3).2) [.ref a0, .int x1, .int x2, .int x3] (m_X9_lend mo x1 x2 x3).1 := by
  refine MU.body (by decide) rfl (Nat.le_of_ble_eq_true rfl) ?_
  intro p e s m below meth c hx hb hml hr hts hown hlocks hP hG ls hl A hD hA hS
  have hl : lv_has ls 4 [(0, .ref a0), (1, .int x1), (2, .int x2), (3, .int x3)] := hl
  have hCF : CallFix p m c cX9_lend 4 s ([.ref a0, .int x1, .int x2, .int x3] : List Value).toArray wsX9_lend RX9 := ⟨hx, hb, hml, hown, hts⟩
  have in_X9 : ∀ w ∈ u_ws RX9 TX9 11, w ∈ wsX9_lend := fun _ h => List.mem_cons_of_mem _ (List.mem_append_right _ h)
  have k_0 := hts (Cond.fieldLink RX9 13 "SparePoolModel" "now" "[I") (List.mem_of_getElem? (i := 1) rfl)
  have hP : va_P D vwCl (wMo cy a0 a1 a2 a3 a4 a5 a6 mo) s.heap := hP
  refine lv_aload_n hx hb dX9_lend_0 rfl (lv_at hl 0 rfl) ?_
  refine lv_aload_n hx hb dX9_lend_1 rfl (lv_at hl 0 rfl) ?_
  refine va_get (D := D) (ci := 7) (v := .ref a2) (C := RX9) (T := TX9) (N := 11) hx hb hts in_X9 hown hG.1 hP 0 g_Mo_0 rfl 3 (by decide) k_0 (fun _ h9 => h9) rfl dX9_lend_2 ?_
  refine lv_iload_n hx hb dX9_lend_5 rfl (lv_at hl 1 rfl) ?_
  refine lv_iload_n hx hb dX9_lend_6 rfl (lv_at hl 2 rfl) ?_
  refine lv_iload_n hx hb dX9_lend_7 rfl (lv_at hl 3 rfl) ?_
  refine roS (wc := (wAr cy a2 (mN mo))) (As := [.ref a2, .int x1, .int x2, .int x3]) (rest := [.ref a0]) (c_X9_whyNotLend l D cy a2 (mN mo) x1 x2 x3 hM) hCF gX9_lend_X9_whyNotLend rfl hd_X9_whyNotLend ⟨rfl, rfl, Nat.le_of_ble_eq_true rfl, Nat.le_of_ble_eq_true rfl⟩ hG (hP.sub (ws' := (wAr cy a2 (mN mo))) [2] u_Mo_Ar2) rfl hl.1 rfl (Nat.le_of_ble_eq_true rfl) dX9_lend_8 ⟨Nat.le_refl _, Nat.le_refl _⟩ ?_
  refine muV (A0 := A) (wc := (wMo cy a0 a1 a2 a3 a4 a5 a6 mo)) (As := [.int (m_X9_whyNotLend (mN mo) x1 x2 x3)]) (rest := []) (c_X9_refused l D cy a0 a1 a2 a3 a4 a5 a6 mo (m_X9_whyNotLend (mN mo) x1 x2 x3)) hCF gX9_lend_X9_refused rfl hd_X9_refused ⟨rfl, rfl, Nat.le_of_ble_eq_true rfl, Nat.le_of_ble_eq_true rfl⟩ hG hP hD hS hA [0, 1, 2, 3, 4, 5, 6] rfl c_Mo_Mo h_Mo (ci := 7) rfl rfl g_Mo_0 rfl hl.1 rfl (Nat.le_of_ble_eq_true rfl) dX9_lend_11 ⟨Nat.le_refl _, Nat.le_refl _⟩ (fun H locs hP hD hS => ?_)
  have hP : va_P D vwCl (wMo cy a0 a1 a2 a3 a4 a5 a6 (mR' mo (m_X9_whyNotLend (mN mo) x1 x2 x3))) H := va_P_eq hP r_Mo_Mo
  have hD : va_D A (wMo cy a0 a1 a2 a3 a4 a5 a6 (mR' mo (m_X9_whyNotLend (mN mo) x1 x2 x3))) := va_D_eq hD r_Mo_Mo
  refine lv_if_eq (tgt := 19) hx hb dX9_lend_14 (by decide) (fun c_1 => ?_) (fun c_1 => ?_)
  · skip
    refine lv_aload_n hx hb dX9_lend_19 rfl (lv_at hl 0 rfl) ?_
    refine mvV (A0 := A) (wc := (wMo cy a0 a1 a2 a3 a4 a5 a6 (mR' mo (m_X9_whyNotLend (mN mo) x1 x2 x3)))) (As := []) (rest := []) (c_X9_remember l D cy a0 a1 a2 a3 a4 a5 a6 (mR' mo (m_X9_whyNotLend (mN mo) x1 x2 x3)) hAc) hCF gX9_lend_X9_remember rfl hd_X9_remember ⟨rfl, rfl, Nat.le_of_ble_eq_true rfl, Nat.le_of_ble_eq_true rfl⟩ hG hP hD hS hA [0, 1, 2, 3, 4, 5, 6] rfl c_Mo_Mo h_Mo (ci := 7) rfl rfl g_Mo_0 rfl hl.1 rfl (Nat.le_of_ble_eq_true rfl) dX9_lend_20 ⟨Nat.le_refl _, Nat.le_refl _⟩ (fun H locs hP hD hS => ?_)
    have hP : va_P D vwCl (wMo cy a0 a1 a2 a3 a4 a5 a6 (m_X9_remember (mR' mo (m_X9_whyNotLend (mN mo) x1 x2 x3)))) H := va_P_eq hP r_Mo_Mo
    have hD : va_D A (wMo cy a0 a1 a2 a3 a4 a5 a6 (m_X9_remember (mR' mo (m_X9_whyNotLend (mN mo) x1 x2 x3)))) := va_D_eq hD r_Mo_Mo
    refine lv_aload_n hx hb dX9_lend_23 rfl (lv_at hl 0 rfl) ?_
    refine va_get (D := D) (ci := 7) (v := .ref a2) (C := RX9) (T := TX9) (N := 11) hx hb hts in_X9 hown hG.1 hP 0 g_Mo_0 rfl 3 (by decide) k_0 (fun _ h9 => h9) rfl dX9_lend_24 ?_
    refine lv_iload_n hx hb dX9_lend_27 rfl (lv_at hl 1 rfl) ?_
    refine lv_iload_n hx hb dX9_lend_28 rfl (lv_at hl 2 rfl) ?_
    refine lv_iload_n hx hb dX9_lend_29 rfl (lv_at hl 3 rfl) ?_
    refine muS (A0 := A) (wc := (wAr cy a2 (mN (m_X9_remember (mR' mo (m_X9_whyNotLend (mN mo) x1 x2 x3)))))) (As := [.ref a2, .int x1, .int x2, .int x3]) (rest := []) (c_X9_lendOn l D cy a2 (mN (m_X9_remember (mR' mo (m_X9_whyNotLend (mN mo) x1 x2 x3)))) x1 x2 x3 (wn_Lend_0 hM (rf_zero (wn_nn_Lend _ _ _ _) c_1))) hCF gX9_lend_X9_lendOn rfl hd_X9_lendOn ⟨rfl, rfl, Nat.le_of_ble_eq_true rfl, Nat.le_of_ble_eq_true rfl⟩ hG hP hD hS hA [2] rfl c_Mo_Ar2 h_Ar rfl hl.1 rfl (Nat.le_of_ble_eq_true rfl) dX9_lend_30 ⟨Nat.le_refl _, Nat.le_refl _⟩ (fun H locs hP hD hS => ?_)
    have hP : va_P D vwCl (wMo cy a0 a1 a2 a3 a4 a5 a6 (mN' (m_X9_remember (mR' mo (m_X9_whyNotLend (mN mo) x1 x2 x3))) (m_X9_lendOn (mN (m_X9_remember (mR' mo (m_X9_whyNotLend (mN mo) x1 x2 x3)))) x1 x2 x3).2)) H := va_P_eq hP r_Mo_Ar2
    have hD : va_D A (wMo cy a0 a1 a2 a3 a4 a5 a6 (mN' (m_X9_remember (mR' mo (m_X9_whyNotLend (mN mo) x1 x2 x3))) (m_X9_lendOn (mN (m_X9_remember (mR' mo (m_X9_whyNotLend (mN mo) x1 x2 x3)))) x1 x2 x3).2)) := va_D_eq hD r_Mo_Ar2
    exact mu_iret hx hb hr hlocks hP hS dX9_lend_33 (by rw [m_X9_lend, if_pos c_1]) (by rw [m_X9_lend, if_pos c_1])
  · skip
    refine lv_iconst (v := (0 : Int32)) hx hb dX9_lend_17 (by decide) ?_
    exact mu_iret hx hb hr hlocks hP hS dX9_lend_18 (by rw [m_X9_lend, if_neg c_1]) (by rw [m_X9_lend, if_neg c_1])
def m_X9_bring (mo : MoT) (x1 : Int32) : Int32 × MoT := if (m_X9_refused mo (m_X9_whyNotBring (mN mo) x1)).1 = (0 : Int32) then ((m_X9_bringOn (mN (m_X9_remember (mR' mo (m_X9_whyNotBring (mN mo) x1)))) x1).1, mN' (m_X9_remember (mR' mo (m_X9_whyNotBring (mN mo) x1))) (m_X9_bringOn (mN (m_X9_remember (mR' mo (m_X9_whyNotBring (mN mo) x1)))) x1).2) else ((0 : Int32), mR' mo (m_X9_whyNotBring (mN mo) x1))
theorem hd_X9_bring : yX9_bring.cls = RX9 ∧ yX9_bring.cls ≠ "java/lang/invoke/MethodHandle" ∧ yX9_bring.cls ≠ "java/lang/invoke/VarHandle" ∧ (parseMethodDescriptor yX9_bring.desc).map (fun d => d.parameters.length) = some 1 := by decide +kernel
set_option maxHeartbeats 8000000 in
set_option maxRecDepth 20000 in
theorem c_X9_bring (l : Launch) (D : va_G) (cy : Nat → ClassId) (a0 a1 a2 a3 a4 a5 a6 : Nat) (mo : MoT) (x1 : Int32) (hM : rOK (mN mo)) (hAc : iv 0 14 (mA mo)) : MU l D cy yX9_bring wsX9_bring ({ frames := 4, cells := 0, slots := 0, locals := 87 } : Room) (wMo cy a0 a1 a2 a3 a4 a5 a6 mo) (wMo cy a0 a1 a2 a3 a4 a5 a6 (m_X9_bring mo x1).2) [.ref a0, .int x1] (m_X9_bring mo x1).1 := by
  refine MU.body (by decide) rfl (Nat.le_of_ble_eq_true rfl) ?_
  intro p e s m below meth c hx hb hml hr hts hown hlocks hP hG ls hl A hD hA hS
  have hl : lv_has ls 2 [(0, .ref a0), (1, .int x1)] := hl
  have hCF : CallFix p m c cX9_bring 2 s ([.ref a0, .int x1] : List Value).toArray wsX9_bring RX9 := ⟨hx, hb, hml, hown, hts⟩
  have in_X9 : ∀ w ∈ u_ws RX9 TX9 11, w ∈ wsX9_bring := fun _ h => List.mem_cons_of_mem _ (List.mem_append_right _ h)
  have k_0 := hts (Cond.fieldLink RX9 13 "SparePoolModel" "now" "[I") (List.mem_of_getElem? (i := 1) rfl)
  have hP : va_P D vwCl (wMo cy a0 a1 a2 a3 a4 a5 a6 mo) s.heap := hP
  refine lv_aload_n hx hb dX9_bring_0 rfl (lv_at hl 0 rfl) ?_
  refine lv_aload_n hx hb dX9_bring_1 rfl (lv_at hl 0 rfl) ?_
  refine va_get (D := D) (ci := 7) (v := .ref a2) (C := RX9) (T := TX9) (N := 11) hx hb hts in_X9 hown hG.1 hP 0 g_Mo_0 rfl 3 (by decide) k_0 (fun _ h9 => h9) rfl dX9_bring_2 ?_
  refine lv_iload_n hx hb dX9_bring_5 rfl (lv_at hl 1 rfl) ?_
  refine roS (wc := (wAr cy a2 (mN mo))) (As := [.ref a2, .int x1]) (rest := [.ref a0]) (c_X9_whyNotBring l D cy a2 (mN mo) x1 hM) hCF gX9_bring_X9_whyNotBring rfl hd_X9_whyNotBring ⟨rfl, rfl, Nat.le_of_ble_eq_true rfl, Nat.le_of_ble_eq_true rfl⟩ hG (hP.sub (ws' := (wAr cy a2 (mN mo))) [2] u_Mo_Ar2) rfl hl.1 rfl (Nat.le_of_ble_eq_true rfl) dX9_bring_6 ⟨Nat.le_refl _, Nat.le_refl _⟩ ?_
  refine muV (A0 := A) (wc := (wMo cy a0 a1 a2 a3 a4 a5 a6 mo)) (As := [.int (m_X9_whyNotBring (mN mo) x1)]) (rest := []) (c_X9_refused l D cy a0 a1 a2 a3 a4 a5 a6 mo (m_X9_whyNotBring (mN mo) x1)) hCF gX9_bring_X9_refused rfl hd_X9_refused ⟨rfl, rfl, Nat.le_of_ble_eq_true rfl, Nat.le_of_ble_eq_true rfl⟩ hG hP hD hS hA [0, 1, 2, 3, 4, 5, 6] rfl c_Mo_Mo h_Mo (ci := 7) rfl rfl g_Mo_0 rfl hl.1 rfl (Nat.le_of_ble_eq_true rfl) dX9_bring_9 ⟨Nat.le_refl _, Nat.le_refl _⟩ (fun H locs hP hD hS => ?_)
  have hP : va_P D vwCl (wMo cy a0 a1 a2 a3 a4 a5 a6 (mR' mo (m_X9_whyNotBring (mN mo) x1))) H := va_P_eq hP r_Mo_Mo
  have hD : va_D A (wMo cy a0 a1 a2 a3 a4 a5 a6 (mR' mo (m_X9_whyNotBring (mN mo) x1))) := va_D_eq hD r_Mo_Mo
  refine lv_if_eq (tgt := 17) hx hb dX9_bring_12 (by decide) (fun c_1 => ?_) (fun c_1 => ?_)
  · skip
    refine lv_aload_n hx hb dX9_bring_17 rfl (lv_at hl 0 rfl) ?_
    refine mvV (A0 := A) (wc := (wMo cy a0 a1 a2 a3 a4 a5 a6 (mR' mo (m_X9_whyNotBring (mN mo) x1)))) (As := []) (rest := []) (c_X9_remember l D cy a0 a1 a2 a3 a4 a5 a6 (mR' mo (m_X9_whyNotBring (mN mo) x1)) hAc) hCF gX9_bring_X9_remember rfl hd_X9_remember ⟨rfl, rfl, Nat.le_of_ble_eq_true rfl, Nat.le_of_ble_eq_true rfl⟩ hG hP hD hS hA [0, 1, 2, 3, 4, 5, 6] rfl c_Mo_Mo h_Mo (ci := 7) rfl rfl g_Mo_0 rfl hl.1 rfl (Nat.le_of_ble_eq_true rfl) dX9_bring_18 ⟨Nat.le_refl _, Nat.le_refl _⟩ (fun H locs hP hD hS => ?_)
    have hP : va_P D vwCl (wMo cy a0 a1 a2 a3 a4 a5 a6 (m_X9_remember (mR' mo (m_X9_whyNotBring (mN mo) x1)))) H := va_P_eq hP r_Mo_Mo
    have hD : va_D A (wMo cy a0 a1 a2 a3 a4 a5 a6 (m_X9_remember (mR' mo (m_X9_whyNotBring (mN mo) x1)))) := va_D_eq hD r_Mo_Mo
    refine lv_aload_n hx hb dX9_bring_21 rfl (lv_at hl 0 rfl) ?_
    refine va_get (D := D) (ci := 7) (v := .ref a2) (C := RX9) (T := TX9) (N := 11) hx hb hts in_X9 hown hG.1 hP 0 g_Mo_0 rfl 3 (by decide) k_0 (fun _ h9 => h9) rfl dX9_bring_22 ?_
    refine lv_iload_n hx hb dX9_bring_25 rfl (lv_at hl 1 rfl) ?_
    refine muS (A0 := A) (wc := (wAr cy a2 (mN (m_X9_remember (mR' mo (m_X9_whyNotBring (mN mo) x1)))))) (As := [.ref a2, .int x1]) (rest := []) (c_X9_bringOn l D cy a2 (mN (m_X9_remember (mR' mo (m_X9_whyNotBring (mN mo) x1)))) x1 (rem_ok hM) (wn_Bring_0 hM (rf_zero (wn_nn_Bring _ _) c_1))) hCF gX9_bring_X9_bringOn rfl hd_X9_bringOn ⟨rfl, rfl, Nat.le_of_ble_eq_true rfl, Nat.le_of_ble_eq_true rfl⟩ hG hP hD hS hA [2] rfl c_Mo_Ar2 h_Ar rfl hl.1 rfl (Nat.le_of_ble_eq_true rfl) dX9_bring_26 ⟨Nat.le_refl _, Nat.le_refl _⟩ (fun H locs hP hD hS => ?_)
    have hP : va_P D vwCl (wMo cy a0 a1 a2 a3 a4 a5 a6 (mN' (m_X9_remember (mR' mo (m_X9_whyNotBring (mN mo) x1))) (m_X9_bringOn (mN (m_X9_remember (mR' mo (m_X9_whyNotBring (mN mo) x1)))) x1).2)) H := va_P_eq hP r_Mo_Ar2
    have hD : va_D A (wMo cy a0 a1 a2 a3 a4 a5 a6 (mN' (m_X9_remember (mR' mo (m_X9_whyNotBring (mN mo) x1))) (m_X9_bringOn (mN (m_X9_remember (mR' mo (m_X9_whyNotBring (mN mo) x1)))) x1).2)) := va_D_eq hD r_Mo_Ar2
    exact mu_iret hx hb hr hlocks hP hS dX9_bring_29 (by rw [m_X9_bring, if_pos c_1]) (by rw [m_X9_bring, if_pos c_1])
  · skip
    refine lv_iconst (v := (0 : Int32)) hx hb dX9_bring_15 (by decide) ?_
    exact mu_iret hx hb hr hlocks hP hS dX9_bring_16 (by rw [m_X9_bring, if_neg c_1]) (by rw [m_X9_bring, if_neg c_1])
def m_X9_exchange (mo : MoT) (x1 : Int32) (x2 : Int32) : Int32 × MoT := if (m_X9_refused mo (m_X9_whyNotExchange (mN mo) x1 x2)).1 = (0 : Int32) then ((m_X9_exchangeOn (mN (m_X9_remember (mR' mo (m_X9_whyNotExchange (mN mo) x1 x2)))) x1 x2).1, mN' (m_X9_remember (mR' mo (m_X9_whyNotExchange (mN mo) x1 x2))) (m_X9_exchangeOn (mN (m_X9_remember (mR' mo (m_X9_whyNotExchange (mN mo) x1 x2)))) x1 x2).2) else ((0 : Int32), mR' mo (m_X9_whyNotExchange (mN mo) x1 x2))
theorem hd_X9_exchange : yX9_exchange.cls = RX9 ∧ yX9_exchange.cls ≠ "java/lang/invoke/MethodHandle" ∧ yX9_exchange.cls ≠ "java/lang/invoke/VarHandle" ∧ (parseMethodDescriptor yX9_exchange.desc).map (fun d => d.parameters.length) = some 2 := by decide +kernel
set_option maxHeartbeats 8000000 in
set_option maxRecDepth 20000 in
theorem c_X9_exchange (l : Launch) (D : va_G) (cy : Nat → ClassId) (a0 a1 a2 a3 a4 a5 a6 : Nat) (mo : MoT) (x1 : Int32) (x2 : Int32) (hM : rOK (mN mo)) (hAc : iv 0 14 (mA mo)) : MU l D cy yX9_exchange wsX9_exchange ({ frames := 4, cells := 0, slots := 0, locals := 89 } : Room) (wMo cy a0 a1 a2 a3 a4 a5 a6 mo) (wMo cy a0 a1 a2 a3 a4 a5 a6 (m_X9_exchange mo x1 x2).2) [.ref a0, .int x1, .int x2] (m_X9_exchange mo x1 x2).1 := by
  refine MU.body (by decide) rfl (Nat.le_of_ble_eq_true rfl) ?_
  intro p e s m below meth c hx hb hml hr hts hown hlocks hP hG ls hl A hD hA hS
  have hl : lv_has ls 3 [(0, .ref a0), (1, .int x1), (2, .int x2)] := hl
  have hCF : CallFix p m c cX9_exchange 3 s ([.ref a0, .int x1, .int x2] : List Value).toArray wsX9_exchange RX9 := ⟨hx, hb, hml, hown, hts⟩
  have in_X9 : ∀ w ∈ u_ws RX9 TX9 11, w ∈ wsX9_exchange := fun _ h => List.mem_cons_of_mem _ (List.mem_append_right _ h)
  have k_0 := hts (Cond.fieldLink RX9 13 "SparePoolModel" "now" "[I") (List.mem_of_getElem? (i := 1) rfl)
  have hP : va_P D vwCl (wMo cy a0 a1 a2 a3 a4 a5 a6 mo) s.heap := hP
  refine lv_aload_n hx hb dX9_exchange_0 rfl (lv_at hl 0 rfl) ?_
  refine lv_aload_n hx hb dX9_exchange_1 rfl (lv_at hl 0 rfl) ?_
  refine va_get (D := D) (ci := 7) (v := .ref a2) (C := RX9) (T := TX9) (N := 11) hx hb hts in_X9 hown hG.1 hP 0 g_Mo_0 rfl 3 (by decide) k_0 (fun _ h9 => h9) rfl dX9_exchange_2 ?_
  refine lv_iload_n hx hb dX9_exchange_5 rfl (lv_at hl 1 rfl) ?_
  refine lv_iload_n hx hb dX9_exchange_6 rfl (lv_at hl 2 rfl) ?_
  refine roS (wc := (wAr cy a2 (mN mo))) (As := [.ref a2, .int x1, .int x2]) (rest := [.ref a0]) (c_X9_whyNotExchange l D cy a2 (mN mo) x1 x2 hM) hCF gX9_exchange_X9_whyNotExchange rfl hd_X9_whyNotExchange ⟨rfl, rfl, Nat.le_of_ble_eq_true rfl, Nat.le_of_ble_eq_true rfl⟩ hG (hP.sub (ws' := (wAr cy a2 (mN mo))) [2] u_Mo_Ar2) rfl hl.1 rfl (Nat.le_of_ble_eq_true rfl) dX9_exchange_7 ⟨Nat.le_refl _, Nat.le_refl _⟩ ?_
  refine muV (A0 := A) (wc := (wMo cy a0 a1 a2 a3 a4 a5 a6 mo)) (As := [.int (m_X9_whyNotExchange (mN mo) x1 x2)]) (rest := []) (c_X9_refused l D cy a0 a1 a2 a3 a4 a5 a6 mo (m_X9_whyNotExchange (mN mo) x1 x2)) hCF gX9_exchange_X9_refused rfl hd_X9_refused ⟨rfl, rfl, Nat.le_of_ble_eq_true rfl, Nat.le_of_ble_eq_true rfl⟩ hG hP hD hS hA [0, 1, 2, 3, 4, 5, 6] rfl c_Mo_Mo h_Mo (ci := 7) rfl rfl g_Mo_0 rfl hl.1 rfl (Nat.le_of_ble_eq_true rfl) dX9_exchange_10 ⟨Nat.le_refl _, Nat.le_refl _⟩ (fun H locs hP hD hS => ?_)
  have hP : va_P D vwCl (wMo cy a0 a1 a2 a3 a4 a5 a6 (mR' mo (m_X9_whyNotExchange (mN mo) x1 x2))) H := va_P_eq hP r_Mo_Mo
  have hD : va_D A (wMo cy a0 a1 a2 a3 a4 a5 a6 (mR' mo (m_X9_whyNotExchange (mN mo) x1 x2))) := va_D_eq hD r_Mo_Mo
  refine lv_if_eq (tgt := 18) hx hb dX9_exchange_13 (by decide) (fun c_1 => ?_) (fun c_1 => ?_)
  · skip
    refine lv_aload_n hx hb dX9_exchange_18 rfl (lv_at hl 0 rfl) ?_
    refine mvV (A0 := A) (wc := (wMo cy a0 a1 a2 a3 a4 a5 a6 (mR' mo (m_X9_whyNotExchange (mN mo) x1 x2)))) (As := []) (rest := []) (c_X9_remember l D cy a0 a1 a2 a3 a4 a5 a6 (mR' mo (m_X9_whyNotExchange (mN mo) x1 x2)) hAc) hCF gX9_exchange_X9_remember rfl hd_X9_remember ⟨rfl, rfl, Nat.le_of_ble_eq_true rfl, Nat.le_of_ble_eq_true rfl⟩ hG hP hD hS hA [0, 1, 2, 3, 4, 5, 6] rfl c_Mo_Mo h_Mo (ci := 7) rfl rfl g_Mo_0 rfl hl.1 rfl (Nat.le_of_ble_eq_true rfl) dX9_exchange_19 ⟨Nat.le_refl _, Nat.le_refl _⟩ (fun H locs hP hD hS => ?_)
    have hP : va_P D vwCl (wMo cy a0 a1 a2 a3 a4 a5 a6 (m_X9_remember (mR' mo (m_X9_whyNotExchange (mN mo) x1 x2)))) H := va_P_eq hP r_Mo_Mo
    have hD : va_D A (wMo cy a0 a1 a2 a3 a4 a5 a6 (m_X9_remember (mR' mo (m_X9_whyNotExchange (mN mo) x1 x2)))) := va_D_eq hD r_Mo_Mo
    refine lv_aload_n hx hb dX9_exchange_22 rfl (lv_at hl 0 rfl) ?_
    refine va_get (D := D) (ci := 7) (v := .ref a2) (C := RX9) (T := TX9) (N := 11) hx hb hts in_X9 hown hG.1 hP 0 g_Mo_0 rfl 3 (by decide) k_0 (fun _ h9 => h9) rfl dX9_exchange_23 ?_
    refine lv_iload_n hx hb dX9_exchange_26 rfl (lv_at hl 1 rfl) ?_
    refine lv_iload_n hx hb dX9_exchange_27 rfl (lv_at hl 2 rfl) ?_
    refine muS (A0 := A) (wc := (wAr cy a2 (mN (m_X9_remember (mR' mo (m_X9_whyNotExchange (mN mo) x1 x2)))))) (As := [.ref a2, .int x1, .int x2]) (rest := []) (c_X9_exchangeOn l D cy a2 (mN (m_X9_remember (mR' mo (m_X9_whyNotExchange (mN mo) x1 x2)))) x1 x2 (rem_ok hM) (wn_Exchange_0 hM (rf_zero (wn_nn_Exchange _ _ _) c_1)) (wn_Exchange_1 hM (rf_zero (wn_nn_Exchange _ _ _) c_1))) hCF gX9_exchange_X9_exchangeOn rfl hd_X9_exchangeOn ⟨rfl, rfl, Nat.le_of_ble_eq_true rfl, Nat.le_of_ble_eq_true rfl⟩ hG hP hD hS hA [2] rfl c_Mo_Ar2 h_Ar rfl hl.1 rfl (Nat.le_of_ble_eq_true rfl) dX9_exchange_28 ⟨Nat.le_refl _, Nat.le_refl _⟩ (fun H locs hP hD hS => ?_)
    have hP : va_P D vwCl (wMo cy a0 a1 a2 a3 a4 a5 a6 (mN' (m_X9_remember (mR' mo (m_X9_whyNotExchange (mN mo) x1 x2))) (m_X9_exchangeOn (mN (m_X9_remember (mR' mo (m_X9_whyNotExchange (mN mo) x1 x2)))) x1 x2).2)) H := va_P_eq hP r_Mo_Ar2
    have hD : va_D A (wMo cy a0 a1 a2 a3 a4 a5 a6 (mN' (m_X9_remember (mR' mo (m_X9_whyNotExchange (mN mo) x1 x2))) (m_X9_exchangeOn (mN (m_X9_remember (mR' mo (m_X9_whyNotExchange (mN mo) x1 x2)))) x1 x2).2)) := va_D_eq hD r_Mo_Ar2
    exact mu_iret hx hb hr hlocks hP hS dX9_exchange_31 (by rw [m_X9_exchange, if_pos c_1]) (by rw [m_X9_exchange, if_pos c_1])
  · skip
    refine lv_iconst (v := (0 : Int32)) hx hb dX9_exchange_16 (by decide) ?_
    exact mu_iret hx hb hr hlocks hP hS dX9_exchange_17 (by rw [m_X9_exchange, if_neg c_1]) (by rw [m_X9_exchange, if_neg c_1])
def m_X9_advance (mo : MoT) (x1 : Int32) (x2 : Int32) (x3 : Int32) : Int32 × MoT := if (m_X9_refused mo (m_X9_whyNotAdvance (mN mo) x1 x2 x3)).1 = (0 : Int32) then ((m_X9_advanceOn (mN (m_X9_remember (mR' mo (m_X9_whyNotAdvance (mN mo) x1 x2 x3)))) x1 x2 x3).1, mN' (m_X9_remember (mR' mo (m_X9_whyNotAdvance (mN mo) x1 x2 x3))) (m_X9_advanceOn (mN (m_X9_remember (mR' mo (m_X9_whyNotAdvance (mN mo) x1 x2 x3)))) x1 x2 x3).2) else ((0 : Int32), mR' mo (m_X9_whyNotAdvance (mN mo) x1 x2 x3))
theorem hd_X9_advance : yX9_advance.cls = RX9 ∧ yX9_advance.cls ≠ "java/lang/invoke/MethodHandle" ∧ yX9_advance.cls ≠ "java/lang/invoke/VarHandle" ∧ (parseMethodDescriptor yX9_advance.desc).map (fun d => d.parameters.length) = some 3 := by decide +kernel
set_option maxHeartbeats 8000000 in
set_option maxRecDepth 20000 in
theorem c_X9_advance (l : Launch) (D : va_G) (cy : Nat → ClassId) (a0 a1 a2 a3 a4 a5 a6 : Nat) (mo : MoT) (x1 : Int32) (x2 : Int32) (x3 : Int32) (hM : rOK (mN mo)) (hAc : iv 0 14 (mA mo)) : MU l D cy yX9_advance wsX9_advance ({ frames := 4, cells := 0, slots := 0, locals := 87 } : Room) (wMo cy a0 a1 a2 a3 a4 a5 a6 mo) (wMo cy a0 a1 a2 a3 a4 a5 a6 (m_X9_advance mo x1 x2 x3).2) [.ref a0, .int x1, .int x2, .int x3] (m_X9_advance mo x1 x2 x3).1 := by
  refine MU.body (by decide) rfl (Nat.le_of_ble_eq_true rfl) ?_
  intro p e s m below meth c hx hb hml hr hts hown hlocks hP hG ls hl A hD hA hS
  have hl : lv_has ls 4 [(0, .ref a0), (1, .int x1), (2, .int x2), (3, .int x3)] := hl
  have hCF : CallFix p m c cX9_advance 4 s ([.ref a0, .int x1, .int x2, .int x3] : List Value).toArray wsX9_advance RX9 := ⟨hx, hb, hml, hown, hts⟩
  have in_X9 : ∀ w ∈ u_ws RX9 TX9 11, w ∈ wsX9_advance := fun _ h => List.mem_cons_of_mem _ (List.mem_append_right _ h)
  have k_0 := hts (Cond.fieldLink RX9 13 "SparePoolModel" "now" "[I") (List.mem_of_getElem? (i := 1) rfl)
  have hP : va_P D vwCl (wMo cy a0 a1 a2 a3 a4 a5 a6 mo) s.heap := hP
  refine lv_aload_n hx hb dX9_advance_0 rfl (lv_at hl 0 rfl) ?_
  refine lv_aload_n hx hb dX9_advance_1 rfl (lv_at hl 0 rfl) ?_
  refine va_get (D := D) (ci := 7) (v := .ref a2) (C := RX9) (T := TX9) (N := 11) hx hb hts in_X9 hown hG.1 hP 0 g_Mo_0 rfl 3 (by decide) k_0 (fun _ h9 => h9) rfl dX9_advance_2 ?_
  refine lv_iload_n hx hb dX9_advance_5 rfl (lv_at hl 1 rfl) ?_
  refine lv_iload_n hx hb dX9_advance_6 rfl (lv_at hl 2 rfl) ?_
  refine lv_iload_n hx hb dX9_advance_7 rfl (lv_at hl 3 rfl) ?_
  refine roS (wc := (wAr cy a2 (mN mo))) (As := [.ref a2, .int x1, .int x2, .int x3]) (rest := [.ref a0]) (c_X9_whyNotAdvance l D cy a2 (mN mo) x1 x2 x3 hM) hCF gX9_advance_X9_whyNotAdvance rfl hd_X9_whyNotAdvance ⟨rfl, rfl, Nat.le_of_ble_eq_true rfl, Nat.le_of_ble_eq_true rfl⟩ hG (hP.sub (ws' := (wAr cy a2 (mN mo))) [2] u_Mo_Ar2) rfl hl.1 rfl (Nat.le_of_ble_eq_true rfl) dX9_advance_8 ⟨Nat.le_refl _, Nat.le_refl _⟩ ?_
  refine muV (A0 := A) (wc := (wMo cy a0 a1 a2 a3 a4 a5 a6 mo)) (As := [.int (m_X9_whyNotAdvance (mN mo) x1 x2 x3)]) (rest := []) (c_X9_refused l D cy a0 a1 a2 a3 a4 a5 a6 mo (m_X9_whyNotAdvance (mN mo) x1 x2 x3)) hCF gX9_advance_X9_refused rfl hd_X9_refused ⟨rfl, rfl, Nat.le_of_ble_eq_true rfl, Nat.le_of_ble_eq_true rfl⟩ hG hP hD hS hA [0, 1, 2, 3, 4, 5, 6] rfl c_Mo_Mo h_Mo (ci := 7) rfl rfl g_Mo_0 rfl hl.1 rfl (Nat.le_of_ble_eq_true rfl) dX9_advance_11 ⟨Nat.le_refl _, Nat.le_refl _⟩ (fun H locs hP hD hS => ?_)
  have hP : va_P D vwCl (wMo cy a0 a1 a2 a3 a4 a5 a6 (mR' mo (m_X9_whyNotAdvance (mN mo) x1 x2 x3))) H := va_P_eq hP r_Mo_Mo
  have hD : va_D A (wMo cy a0 a1 a2 a3 a4 a5 a6 (mR' mo (m_X9_whyNotAdvance (mN mo) x1 x2 x3))) := va_D_eq hD r_Mo_Mo
  refine lv_if_eq (tgt := 19) hx hb dX9_advance_14 (by decide) (fun c_1 => ?_) (fun c_1 => ?_)
  · skip
    refine lv_aload_n hx hb dX9_advance_19 rfl (lv_at hl 0 rfl) ?_
    refine mvV (A0 := A) (wc := (wMo cy a0 a1 a2 a3 a4 a5 a6 (mR' mo (m_X9_whyNotAdvance (mN mo) x1 x2 x3)))) (As := []) (rest := []) (c_X9_remember l D cy a0 a1 a2 a3 a4 a5 a6 (mR' mo (m_X9_whyNotAdvance (mN mo) x1 x2 x3)) hAc) hCF gX9_advance_X9_remember rfl hd_X9_remember ⟨rfl, rfl, Nat.le_of_ble_eq_true rfl, Nat.le_of_ble_eq_true rfl⟩ hG hP hD hS hA [0, 1, 2, 3, 4, 5, 6] rfl c_Mo_Mo h_Mo (ci := 7) rfl rfl g_Mo_0 rfl hl.1 rfl (Nat.le_of_ble_eq_true rfl) dX9_advance_20 ⟨Nat.le_refl _, Nat.le_refl _⟩ (fun H locs hP hD hS => ?_)
    have hP : va_P D vwCl (wMo cy a0 a1 a2 a3 a4 a5 a6 (m_X9_remember (mR' mo (m_X9_whyNotAdvance (mN mo) x1 x2 x3)))) H := va_P_eq hP r_Mo_Mo
    have hD : va_D A (wMo cy a0 a1 a2 a3 a4 a5 a6 (m_X9_remember (mR' mo (m_X9_whyNotAdvance (mN mo) x1 x2 x3)))) := va_D_eq hD r_Mo_Mo
    refine lv_aload_n hx hb dX9_advance_23 rfl (lv_at hl 0 rfl) ?_
    refine va_get (D := D) (ci := 7) (v := .ref a2) (C := RX9) (T := TX9) (N := 11) hx hb hts in_X9 hown hG.1 hP 0 g_Mo_0 rfl 3 (by decide) k_0 (fun _ h9 => h9) rfl dX9_advance_24 ?_
    refine lv_iload_n hx hb dX9_advance_27 rfl (lv_at hl 1 rfl) ?_
    refine lv_iload_n hx hb dX9_advance_28 rfl (lv_at hl 2 rfl) ?_
    refine lv_iload_n hx hb dX9_advance_29 rfl (lv_at hl 3 rfl) ?_
    refine muS (A0 := A) (wc := (wAr cy a2 (mN (m_X9_remember (mR' mo (m_X9_whyNotAdvance (mN mo) x1 x2 x3)))))) (As := [.ref a2, .int x1, .int x2, .int x3]) (rest := []) (c_X9_advanceOn l D cy a2 (mN (m_X9_remember (mR' mo (m_X9_whyNotAdvance (mN mo) x1 x2 x3)))) x1 x2 x3 (rem_ok hM) (wn_Advance_0 hM (rf_zero (wn_nn_Advance _ _ _ _) c_1)) (wn_Advance_1 hM (rf_zero (wn_nn_Advance _ _ _ _) c_1)) (by rw [rem_N]; exact wn_Adv_n hM (rf_zero (wn_nn_Advance _ _ _ _) c_1))) hCF gX9_advance_X9_advanceOn rfl hd_X9_advanceOn ⟨rfl, rfl, Nat.le_of_ble_eq_true rfl, Nat.le_of_ble_eq_true rfl⟩ hG hP hD hS hA [2] rfl c_Mo_Ar2 h_Ar rfl hl.1 rfl (Nat.le_of_ble_eq_true rfl) dX9_advance_30 ⟨Nat.le_refl _, Nat.le_refl _⟩ (fun H locs hP hD hS => ?_)
    have hP : va_P D vwCl (wMo cy a0 a1 a2 a3 a4 a5 a6 (mN' (m_X9_remember (mR' mo (m_X9_whyNotAdvance (mN mo) x1 x2 x3))) (m_X9_advanceOn (mN (m_X9_remember (mR' mo (m_X9_whyNotAdvance (mN mo) x1 x2 x3)))) x1 x2 x3).2)) H := va_P_eq hP r_Mo_Ar2
    have hD : va_D A (wMo cy a0 a1 a2 a3 a4 a5 a6 (mN' (m_X9_remember (mR' mo (m_X9_whyNotAdvance (mN mo) x1 x2 x3))) (m_X9_advanceOn (mN (m_X9_remember (mR' mo (m_X9_whyNotAdvance (mN mo) x1 x2 x3)))) x1 x2 x3).2)) := va_D_eq hD r_Mo_Ar2
    exact mu_iret hx hb hr hlocks hP hS dX9_advance_33 (by rw [m_X9_advance, if_pos c_1]) (by rw [m_X9_advance, if_pos c_1])
  · skip
    refine lv_iconst (v := (0 : Int32)) hx hb dX9_advance_17 (by decide) ?_
    exact mu_iret hx hb hr hlocks hP hS dX9_advance_18 (by rw [m_X9_advance, if_neg c_1]) (by rw [m_X9_advance, if_neg c_1])
def m_X9_deliver (mo : MoT) (x1 : Int32) : Int32 × MoT := if (m_X9_refused mo (m_X9_whyNotDeliver (mN mo) x1)).1 = (0 : Int32) then ((m_X9_deliverOn (mN (m_X9_remember (mR' mo (m_X9_whyNotDeliver (mN mo) x1)))) x1).1, mN' (m_X9_remember (mR' mo (m_X9_whyNotDeliver (mN mo) x1))) (m_X9_deliverOn (mN (m_X9_remember (mR' mo (m_X9_whyNotDeliver (mN mo) x1)))) x1).2) else ((0 : Int32), mR' mo (m_X9_whyNotDeliver (mN mo) x1))
theorem hd_X9_deliver : yX9_deliver.cls = RX9 ∧ yX9_deliver.cls ≠ "java/lang/invoke/MethodHandle" ∧ yX9_deliver.cls ≠ "java/lang/invoke/VarHandle" ∧ (parseMethodDescriptor yX9_deliver.desc).map (fun d => d.parameters.length) = some 1 := by decide +kernel
set_option maxHeartbeats 8000000 in
set_option maxRecDepth 20000 in
theorem c_X9_deliver (l : Launch) (D : va_G) (cy : Nat → ClassId) (a0 a1 a2 a3 a4 a5 a6 : Nat) (mo : MoT) (x1 : Int32) (hM : rOK (mN mo)) (hAc : iv 0 14 (mA mo)) : MU l D cy yX9_deliver wsX9_deliver ({ frames := 4, cells := 0, slots := 0, locals := 91 } : Room) (wMo cy a0 a1 a2 a3 a4 a5 a6 mo) (wMo cy a0 a1 a2 a3 a4 a5 a6 (m_X9_deliver mo x1).2) [.ref a0, .int x1] (m_X9_deliver mo x1).1 := by
  refine MU.body (by decide) rfl (Nat.le_of_ble_eq_true rfl) ?_
  intro p e s m below meth c hx hb hml hr hts hown hlocks hP hG ls hl A hD hA hS
  have hl : lv_has ls 2 [(0, .ref a0), (1, .int x1)] := hl
  have hCF : CallFix p m c cX9_deliver 2 s ([.ref a0, .int x1] : List Value).toArray wsX9_deliver RX9 := ⟨hx, hb, hml, hown, hts⟩
  have in_X9 : ∀ w ∈ u_ws RX9 TX9 11, w ∈ wsX9_deliver := fun _ h => List.mem_cons_of_mem _ (List.mem_append_right _ h)
  have k_0 := hts (Cond.fieldLink RX9 13 "SparePoolModel" "now" "[I") (List.mem_of_getElem? (i := 1) rfl)
  have hP : va_P D vwCl (wMo cy a0 a1 a2 a3 a4 a5 a6 mo) s.heap := hP
  refine lv_aload_n hx hb dX9_deliver_0 rfl (lv_at hl 0 rfl) ?_
  refine lv_aload_n hx hb dX9_deliver_1 rfl (lv_at hl 0 rfl) ?_
  refine va_get (D := D) (ci := 7) (v := .ref a2) (C := RX9) (T := TX9) (N := 11) hx hb hts in_X9 hown hG.1 hP 0 g_Mo_0 rfl 3 (by decide) k_0 (fun _ h9 => h9) rfl dX9_deliver_2 ?_
  refine lv_iload_n hx hb dX9_deliver_5 rfl (lv_at hl 1 rfl) ?_
  refine roS (wc := (wAr cy a2 (mN mo))) (As := [.ref a2, .int x1]) (rest := [.ref a0]) (c_X9_whyNotDeliver l D cy a2 (mN mo) x1 hM) hCF gX9_deliver_X9_whyNotDeliver rfl hd_X9_whyNotDeliver ⟨rfl, rfl, Nat.le_of_ble_eq_true rfl, Nat.le_of_ble_eq_true rfl⟩ hG (hP.sub (ws' := (wAr cy a2 (mN mo))) [2] u_Mo_Ar2) rfl hl.1 rfl (Nat.le_of_ble_eq_true rfl) dX9_deliver_6 ⟨Nat.le_refl _, Nat.le_refl _⟩ ?_
  refine muV (A0 := A) (wc := (wMo cy a0 a1 a2 a3 a4 a5 a6 mo)) (As := [.int (m_X9_whyNotDeliver (mN mo) x1)]) (rest := []) (c_X9_refused l D cy a0 a1 a2 a3 a4 a5 a6 mo (m_X9_whyNotDeliver (mN mo) x1)) hCF gX9_deliver_X9_refused rfl hd_X9_refused ⟨rfl, rfl, Nat.le_of_ble_eq_true rfl, Nat.le_of_ble_eq_true rfl⟩ hG hP hD hS hA [0, 1, 2, 3, 4, 5, 6] rfl c_Mo_Mo h_Mo (ci := 7) rfl rfl g_Mo_0 rfl hl.1 rfl (Nat.le_of_ble_eq_true rfl) dX9_deliver_9 ⟨Nat.le_refl _, Nat.le_refl _⟩ (fun H locs hP hD hS => ?_)
  have hP : va_P D vwCl (wMo cy a0 a1 a2 a3 a4 a5 a6 (mR' mo (m_X9_whyNotDeliver (mN mo) x1))) H := va_P_eq hP r_Mo_Mo
  have hD : va_D A (wMo cy a0 a1 a2 a3 a4 a5 a6 (mR' mo (m_X9_whyNotDeliver (mN mo) x1))) := va_D_eq hD r_Mo_Mo
  refine lv_if_eq (tgt := 17) hx hb dX9_deliver_12 (by decide) (fun c_1 => ?_) (fun c_1 => ?_)
  · skip
    refine lv_aload_n hx hb dX9_deliver_17 rfl (lv_at hl 0 rfl) ?_
    refine mvV (A0 := A) (wc := (wMo cy a0 a1 a2 a3 a4 a5 a6 (mR' mo (m_X9_whyNotDeliver (mN mo) x1)))) (As := []) (rest := []) (c_X9_remember l D cy a0 a1 a2 a3 a4 a5 a6 (mR' mo (m_X9_whyNotDeliver (mN mo) x1)) hAc) hCF gX9_deliver_X9_remember rfl hd_X9_remember ⟨rfl, rfl, Nat.le_of_ble_eq_true rfl, Nat.le_of_ble_eq_true rfl⟩ hG hP hD hS hA [0, 1, 2, 3, 4, 5, 6] rfl c_Mo_Mo h_Mo (ci := 7) rfl rfl g_Mo_0 rfl hl.1 rfl (Nat.le_of_ble_eq_true rfl) dX9_deliver_18 ⟨Nat.le_refl _, Nat.le_refl _⟩ (fun H locs hP hD hS => ?_)
    have hP : va_P D vwCl (wMo cy a0 a1 a2 a3 a4 a5 a6 (m_X9_remember (mR' mo (m_X9_whyNotDeliver (mN mo) x1)))) H := va_P_eq hP r_Mo_Mo
    have hD : va_D A (wMo cy a0 a1 a2 a3 a4 a5 a6 (m_X9_remember (mR' mo (m_X9_whyNotDeliver (mN mo) x1)))) := va_D_eq hD r_Mo_Mo
    refine lv_aload_n hx hb dX9_deliver_21 rfl (lv_at hl 0 rfl) ?_
    refine va_get (D := D) (ci := 7) (v := .ref a2) (C := RX9) (T := TX9) (N := 11) hx hb hts in_X9 hown hG.1 hP 0 g_Mo_0 rfl 3 (by decide) k_0 (fun _ h9 => h9) rfl dX9_deliver_22 ?_
    refine lv_iload_n hx hb dX9_deliver_25 rfl (lv_at hl 1 rfl) ?_
    refine muS (A0 := A) (wc := (wAr cy a2 (mN (m_X9_remember (mR' mo (m_X9_whyNotDeliver (mN mo) x1)))))) (As := [.ref a2, .int x1]) (rest := []) (c_X9_deliverOn l D cy a2 (mN (m_X9_remember (mR' mo (m_X9_whyNotDeliver (mN mo) x1)))) x1 (rem_ok hM) (wn_Deliver_0 hM (rf_zero (wn_nn_Deliver _ _) c_1)) (by rw [rem_N]; exact wn_Del_o (rf_zero (wn_nn_Deliver _ _) c_1))) hCF gX9_deliver_X9_deliverOn rfl hd_X9_deliverOn ⟨rfl, rfl, Nat.le_of_ble_eq_true rfl, Nat.le_of_ble_eq_true rfl⟩ hG hP hD hS hA [2] rfl c_Mo_Ar2 h_Ar rfl hl.1 rfl (Nat.le_of_ble_eq_true rfl) dX9_deliver_26 ⟨Nat.le_refl _, Nat.le_refl _⟩ (fun H locs hP hD hS => ?_)
    have hP : va_P D vwCl (wMo cy a0 a1 a2 a3 a4 a5 a6 (mN' (m_X9_remember (mR' mo (m_X9_whyNotDeliver (mN mo) x1))) (m_X9_deliverOn (mN (m_X9_remember (mR' mo (m_X9_whyNotDeliver (mN mo) x1)))) x1).2)) H := va_P_eq hP r_Mo_Ar2
    have hD : va_D A (wMo cy a0 a1 a2 a3 a4 a5 a6 (mN' (m_X9_remember (mR' mo (m_X9_whyNotDeliver (mN mo) x1))) (m_X9_deliverOn (mN (m_X9_remember (mR' mo (m_X9_whyNotDeliver (mN mo) x1)))) x1).2)) := va_D_eq hD r_Mo_Ar2
    exact mu_iret hx hb hr hlocks hP hS dX9_deliver_29 (by rw [m_X9_deliver, if_pos c_1]) (by rw [m_X9_deliver, if_pos c_1])
  · skip
    refine lv_iconst (v := (0 : Int32)) hx hb dX9_deliver_15 (by decide) ?_
    exact mu_iret hx hb hr hlocks hP hS dX9_deliver_16 (by rw [m_X9_deliver, if_neg c_1]) (by rw [m_X9_deliver, if_neg c_1])
def m_X9_take (mo : MoT) (x1 : Int32) (x2 : Int32) (x3 : Int32) : Int32 × MoT := if (m_X9_refused mo (m_X9_whyNotTake (mN mo) x1 x2 x3)).1 = (0 : Int32) then ((m_X9_takeOn (mN (m_X9_remember (mR' mo (m_X9_whyNotTake (mN mo) x1 x2 x3)))) x1 x2 x3).1, mN' (m_X9_remember (mR' mo (m_X9_whyNotTake (mN mo) x1 x2 x3))) (m_X9_takeOn (mN (m_X9_remember (mR' mo (m_X9_whyNotTake (mN mo) x1 x2 x3)))) x1 x2 x3).2) else ((0 : Int32), mR' mo (m_X9_whyNotTake (mN mo) x1 x2 x3))
theorem hd_X9_take : yX9_take.cls = RX9 ∧ yX9_take.cls ≠ "java/lang/invoke/MethodHandle" ∧ yX9_take.cls ≠ "java/lang/invoke/VarHandle" ∧ (parseMethodDescriptor yX9_take.desc).map (fun d => d.parameters.length) = some 3 := by decide +kernel
set_option maxHeartbeats 8000000 in
set_option maxRecDepth 20000 in
theorem c_X9_take (l : Launch) (D : va_G) (cy : Nat → ClassId) (a0 a1 a2 a3 a4 a5 a6 : Nat) (mo : MoT) (x1 : Int32) (x2 : Int32) (x3 : Int32) (hM : rOK (mN mo)) (hAc : iv 0 14 (mA mo)) : MU l D cy yX9_take wsX9_take ({ frames := 3, cells := 0, slots := 0, locals := 70 } : Room) (wMo cy a0 a1 a2 a3 a4 a5 a6 mo) (wMo cy a0 a1 a2 a3 a4 a5 a6 (m_X9_take mo x1 x2 x3).2) [.ref a0, .int x1, .int x2, .int x3] (m_X9_take mo x1 x2 x3).1 := by
  refine MU.body (by decide) rfl (Nat.le_of_ble_eq_true rfl) ?_
  intro p e s m below meth c hx hb hml hr hts hown hlocks hP hG ls hl A hD hA hS
  have hl : lv_has ls 4 [(0, .ref a0), (1, .int x1), (2, .int x2), (3, .int x3)] := hl
  have hCF : CallFix p m c cX9_take 4 s ([.ref a0, .int x1, .int x2, .int x3] : List Value).toArray wsX9_take RX9 := ⟨hx, hb, hml, hown, hts⟩
  have in_X9 : ∀ w ∈ u_ws RX9 TX9 11, w ∈ wsX9_take := fun _ h => List.mem_cons_of_mem _ (List.mem_append_right _ h)
  have k_0 := hts (Cond.fieldLink RX9 13 "SparePoolModel" "now" "[I") (List.mem_of_getElem? (i := 1) rfl)
  have hP : va_P D vwCl (wMo cy a0 a1 a2 a3 a4 a5 a6 mo) s.heap := hP
  refine lv_aload_n hx hb dX9_take_0 rfl (lv_at hl 0 rfl) ?_
  refine lv_aload_n hx hb dX9_take_1 rfl (lv_at hl 0 rfl) ?_
  refine va_get (D := D) (ci := 7) (v := .ref a2) (C := RX9) (T := TX9) (N := 11) hx hb hts in_X9 hown hG.1 hP 0 g_Mo_0 rfl 3 (by decide) k_0 (fun _ h9 => h9) rfl dX9_take_2 ?_
  refine lv_iload_n hx hb dX9_take_5 rfl (lv_at hl 1 rfl) ?_
  refine lv_iload_n hx hb dX9_take_6 rfl (lv_at hl 2 rfl) ?_
  refine lv_iload_n hx hb dX9_take_7 rfl (lv_at hl 3 rfl) ?_
  refine roS (wc := (wAr cy a2 (mN mo))) (As := [.ref a2, .int x1, .int x2, .int x3]) (rest := [.ref a0]) (c_X9_whyNotTake l D cy a2 (mN mo) x1 x2 x3 hM) hCF gX9_take_X9_whyNotTake rfl hd_X9_whyNotTake ⟨rfl, rfl, Nat.le_of_ble_eq_true rfl, Nat.le_of_ble_eq_true rfl⟩ hG (hP.sub (ws' := (wAr cy a2 (mN mo))) [2] u_Mo_Ar2) rfl hl.1 rfl (Nat.le_of_ble_eq_true rfl) dX9_take_8 ⟨Nat.le_refl _, Nat.le_refl _⟩ ?_
  refine muV (A0 := A) (wc := (wMo cy a0 a1 a2 a3 a4 a5 a6 mo)) (As := [.int (m_X9_whyNotTake (mN mo) x1 x2 x3)]) (rest := []) (c_X9_refused l D cy a0 a1 a2 a3 a4 a5 a6 mo (m_X9_whyNotTake (mN mo) x1 x2 x3)) hCF gX9_take_X9_refused rfl hd_X9_refused ⟨rfl, rfl, Nat.le_of_ble_eq_true rfl, Nat.le_of_ble_eq_true rfl⟩ hG hP hD hS hA [0, 1, 2, 3, 4, 5, 6] rfl c_Mo_Mo h_Mo (ci := 7) rfl rfl g_Mo_0 rfl hl.1 rfl (Nat.le_of_ble_eq_true rfl) dX9_take_11 ⟨Nat.le_refl _, Nat.le_refl _⟩ (fun H locs hP hD hS => ?_)
  have hP : va_P D vwCl (wMo cy a0 a1 a2 a3 a4 a5 a6 (mR' mo (m_X9_whyNotTake (mN mo) x1 x2 x3))) H := va_P_eq hP r_Mo_Mo
  have hD : va_D A (wMo cy a0 a1 a2 a3 a4 a5 a6 (mR' mo (m_X9_whyNotTake (mN mo) x1 x2 x3))) := va_D_eq hD r_Mo_Mo
  refine lv_if_eq (tgt := 19) hx hb dX9_take_14 (by decide) (fun c_1 => ?_) (fun c_1 => ?_)
  · skip
    refine lv_aload_n hx hb dX9_take_19 rfl (lv_at hl 0 rfl) ?_
    refine mvV (A0 := A) (wc := (wMo cy a0 a1 a2 a3 a4 a5 a6 (mR' mo (m_X9_whyNotTake (mN mo) x1 x2 x3)))) (As := []) (rest := []) (c_X9_remember l D cy a0 a1 a2 a3 a4 a5 a6 (mR' mo (m_X9_whyNotTake (mN mo) x1 x2 x3)) hAc) hCF gX9_take_X9_remember rfl hd_X9_remember ⟨rfl, rfl, Nat.le_of_ble_eq_true rfl, Nat.le_of_ble_eq_true rfl⟩ hG hP hD hS hA [0, 1, 2, 3, 4, 5, 6] rfl c_Mo_Mo h_Mo (ci := 7) rfl rfl g_Mo_0 rfl hl.1 rfl (Nat.le_of_ble_eq_true rfl) dX9_take_20 ⟨Nat.le_refl _, Nat.le_refl _⟩ (fun H locs hP hD hS => ?_)
    have hP : va_P D vwCl (wMo cy a0 a1 a2 a3 a4 a5 a6 (m_X9_remember (mR' mo (m_X9_whyNotTake (mN mo) x1 x2 x3)))) H := va_P_eq hP r_Mo_Mo
    have hD : va_D A (wMo cy a0 a1 a2 a3 a4 a5 a6 (m_X9_remember (mR' mo (m_X9_whyNotTake (mN mo) x1 x2 x3)))) := va_D_eq hD r_Mo_Mo
    refine lv_aload_n hx hb dX9_take_23 rfl (lv_at hl 0 rfl) ?_
    refine va_get (D := D) (ci := 7) (v := .ref a2) (C := RX9) (T := TX9) (N := 11) hx hb hts in_X9 hown hG.1 hP 0 g_Mo_0 rfl 3 (by decide) k_0 (fun _ h9 => h9) rfl dX9_take_24 ?_
    refine lv_iload_n hx hb dX9_take_27 rfl (lv_at hl 1 rfl) ?_
    refine lv_iload_n hx hb dX9_take_28 rfl (lv_at hl 2 rfl) ?_
    refine lv_iload_n hx hb dX9_take_29 rfl (lv_at hl 3 rfl) ?_
    refine muS (A0 := A) (wc := (wAr cy a2 (mN (m_X9_remember (mR' mo (m_X9_whyNotTake (mN mo) x1 x2 x3)))))) (As := [.ref a2, .int x1, .int x2, .int x3]) (rest := []) (c_X9_takeOn l D cy a2 (mN (m_X9_remember (mR' mo (m_X9_whyNotTake (mN mo) x1 x2 x3)))) x1 x2 x3 (rem_ok hM) (wn_Take_0 hM (rf_zero (wn_nn_Take _ _ _ _) c_1)) (wn_Take_1 hM (rf_zero (wn_nn_Take _ _ _ _) c_1)) (wn_Take_2 hM (rf_zero (wn_nn_Take _ _ _ _) c_1))) hCF gX9_take_X9_takeOn rfl hd_X9_takeOn ⟨rfl, rfl, Nat.le_of_ble_eq_true rfl, Nat.le_of_ble_eq_true rfl⟩ hG hP hD hS hA [2] rfl c_Mo_Ar2 h_Ar rfl hl.1 rfl (Nat.le_of_ble_eq_true rfl) dX9_take_30 ⟨Nat.le_refl _, Nat.le_refl _⟩ (fun H locs hP hD hS => ?_)
    have hP : va_P D vwCl (wMo cy a0 a1 a2 a3 a4 a5 a6 (mN' (m_X9_remember (mR' mo (m_X9_whyNotTake (mN mo) x1 x2 x3))) (m_X9_takeOn (mN (m_X9_remember (mR' mo (m_X9_whyNotTake (mN mo) x1 x2 x3)))) x1 x2 x3).2)) H := va_P_eq hP r_Mo_Ar2
    have hD : va_D A (wMo cy a0 a1 a2 a3 a4 a5 a6 (mN' (m_X9_remember (mR' mo (m_X9_whyNotTake (mN mo) x1 x2 x3))) (m_X9_takeOn (mN (m_X9_remember (mR' mo (m_X9_whyNotTake (mN mo) x1 x2 x3)))) x1 x2 x3).2)) := va_D_eq hD r_Mo_Ar2
    exact mu_iret hx hb hr hlocks hP hS dX9_take_33 (by rw [m_X9_take, if_pos c_1]) (by rw [m_X9_take, if_pos c_1])
  · skip
    refine lv_iconst (v := (0 : Int32)) hx hb dX9_take_17 (by decide) ?_
    exact mu_iret hx hb hr hlocks hP hS dX9_take_18 (by rw [m_X9_take, if_neg c_1]) (by rw [m_X9_take, if_neg c_1])
def m_X9_settle (mo : MoT) (x1 : Int32) (x2 : Int32) (x3 : Int32) (x4 : Int32) : Int32 × MoT := if (m_X9_refused mo (m_X9_whyNotSettle (mN mo) x1 x2 x3 x4)).1 = (0 : Int32) then ((m_X9_settleOn (mN (m_X9_remember (mR' mo (m_X9_whyNotSettle (mN mo) x1 x2 x3 x4)))) x1 x2 x3 x4).1, mN' (m_X9_remember (mR' mo (m_X9_whyNotSettle (mN mo) x1 x2 x3 x4))) (m_X9_settleOn (mN (m_X9_remember (mR' mo (m_X9_whyNotSettle (mN mo) x1 x2 x3 x4)))) x1 x2 x3 x4).2) else ((0 : Int32), mR' mo (m_X9_whyNotSettle (mN mo) x1 x2 x3 x4))
theorem hd_X9_settle : yX9_settle.cls = RX9 ∧ yX9_settle.cls ≠ "java/lang/invoke/MethodHandle" ∧ yX9_settle.cls ≠ "java/lang/invoke/VarHandle" ∧ (parseMethodDescriptor yX9_settle.desc).map (fun d => d.parameters.length) = some 4 := by decide +kernel
set_option maxHeartbeats 8000000 in
set_option maxRecDepth 20000 in
theorem c_X9_settle (l : Launch) (D : va_G) (cy : Nat → ClassId) (a0 a1 a2 a3 a4 a5 a6 : Nat) (mo : MoT) (x1 : Int32) (x2 : Int32) (x3 : Int32) (x4 : Int32) (hM : rOK (mN mo)) (hAc : iv 0 14 (mA mo)) : MU l D cy yX9_settle wsX9_settle ({ frames := 3, cells := 0, slots := 0, locals := 69 } : Room) (wMo cy a0 a1 a2 a3 a4 a5 a6 mo) (wMo cy a0 a1 a2 a3 a4 a5 a6 (m_X9_settle mo x1 x2 x3 x4).2) [.ref a0, .int x1, .int x2, .int x3, .int x4] (m_X9_settle mo x1 x2 x3 x4).1 := by
  refine MU.body (by decide) rfl (Nat.le_of_ble_eq_true rfl) ?_
  intro p e s m below meth c hx hb hml hr hts hown hlocks hP hG ls hl A hD hA hS
  have hl : lv_has ls 5 [(0, .ref a0), (1, .int x1), (2, .int x2), (3, .int x3), (4, .int x4)] := hl
  have hCF : CallFix p m c cX9_settle 5 s ([.ref a0, .int x1, .int x2, .int x3, .int x4] : List Value).toArray wsX9_settle RX9 := ⟨hx, hb, hml, hown, hts⟩
  have in_X9 : ∀ w ∈ u_ws RX9 TX9 11, w ∈ wsX9_settle := fun _ h => List.mem_cons_of_mem _ (List.mem_append_right _ h)
  have k_0 := hts (Cond.fieldLink RX9 13 "SparePoolModel" "now" "[I") (List.mem_of_getElem? (i := 1) rfl)
  have hP : va_P D vwCl (wMo cy a0 a1 a2 a3 a4 a5 a6 mo) s.heap := hP
  refine lv_aload_n hx hb dX9_settle_0 rfl (lv_at hl 0 rfl) ?_
  refine lv_aload_n hx hb dX9_settle_1 rfl (lv_at hl 0 rfl) ?_
  refine va_get (D := D) (ci := 7) (v := .ref a2) (C := RX9) (T := TX9) (N := 11) hx hb hts in_X9 hown hG.1 hP 0 g_Mo_0 rfl 3 (by decide) k_0 (fun _ h9 => h9) rfl dX9_settle_2 ?_
  refine lv_iload_n hx hb dX9_settle_5 rfl (lv_at hl 1 rfl) ?_
  refine lv_iload_n hx hb dX9_settle_6 rfl (lv_at hl 2 rfl) ?_
  refine lv_iload_n hx hb dX9_settle_7 rfl (lv_at hl 3 rfl) ?_
  refine lv_iload hx hb dX9_settle_8 (lv_at hl 4 rfl) ?_
  refine roS (wc := (wAr cy a2 (mN mo))) (As := [.ref a2, .int x1, .int x2, .int x3, .int x4]) (rest := [.ref a0]) (c_X9_whyNotSettle l D cy a2 (mN mo) x1 x2 x3 x4) hCF gX9_settle_X9_whyNotSettle rfl hd_X9_whyNotSettle ⟨rfl, rfl, Nat.le_of_ble_eq_true rfl, Nat.le_of_ble_eq_true rfl⟩ hG (hP.sub (ws' := (wAr cy a2 (mN mo))) [2] u_Mo_Ar2) rfl hl.1 rfl (Nat.le_of_ble_eq_true rfl) dX9_settle_10 ⟨Nat.le_refl _, Nat.le_refl _⟩ ?_
  refine muV (A0 := A) (wc := (wMo cy a0 a1 a2 a3 a4 a5 a6 mo)) (As := [.int (m_X9_whyNotSettle (mN mo) x1 x2 x3 x4)]) (rest := []) (c_X9_refused l D cy a0 a1 a2 a3 a4 a5 a6 mo (m_X9_whyNotSettle (mN mo) x1 x2 x3 x4)) hCF gX9_settle_X9_refused rfl hd_X9_refused ⟨rfl, rfl, Nat.le_of_ble_eq_true rfl, Nat.le_of_ble_eq_true rfl⟩ hG hP hD hS hA [0, 1, 2, 3, 4, 5, 6] rfl c_Mo_Mo h_Mo (ci := 7) rfl rfl g_Mo_0 rfl hl.1 rfl (Nat.le_of_ble_eq_true rfl) dX9_settle_13 ⟨Nat.le_refl _, Nat.le_refl _⟩ (fun H locs hP hD hS => ?_)
  have hP : va_P D vwCl (wMo cy a0 a1 a2 a3 a4 a5 a6 (mR' mo (m_X9_whyNotSettle (mN mo) x1 x2 x3 x4))) H := va_P_eq hP r_Mo_Mo
  have hD : va_D A (wMo cy a0 a1 a2 a3 a4 a5 a6 (mR' mo (m_X9_whyNotSettle (mN mo) x1 x2 x3 x4))) := va_D_eq hD r_Mo_Mo
  refine lv_if_eq (tgt := 21) hx hb dX9_settle_16 (by decide) (fun c_1 => ?_) (fun c_1 => ?_)
  · skip
    refine lv_aload_n hx hb dX9_settle_21 rfl (lv_at hl 0 rfl) ?_
    refine mvV (A0 := A) (wc := (wMo cy a0 a1 a2 a3 a4 a5 a6 (mR' mo (m_X9_whyNotSettle (mN mo) x1 x2 x3 x4)))) (As := []) (rest := []) (c_X9_remember l D cy a0 a1 a2 a3 a4 a5 a6 (mR' mo (m_X9_whyNotSettle (mN mo) x1 x2 x3 x4)) hAc) hCF gX9_settle_X9_remember rfl hd_X9_remember ⟨rfl, rfl, Nat.le_of_ble_eq_true rfl, Nat.le_of_ble_eq_true rfl⟩ hG hP hD hS hA [0, 1, 2, 3, 4, 5, 6] rfl c_Mo_Mo h_Mo (ci := 7) rfl rfl g_Mo_0 rfl hl.1 rfl (Nat.le_of_ble_eq_true rfl) dX9_settle_22 ⟨Nat.le_refl _, Nat.le_refl _⟩ (fun H locs hP hD hS => ?_)
    have hP : va_P D vwCl (wMo cy a0 a1 a2 a3 a4 a5 a6 (m_X9_remember (mR' mo (m_X9_whyNotSettle (mN mo) x1 x2 x3 x4)))) H := va_P_eq hP r_Mo_Mo
    have hD : va_D A (wMo cy a0 a1 a2 a3 a4 a5 a6 (m_X9_remember (mR' mo (m_X9_whyNotSettle (mN mo) x1 x2 x3 x4)))) := va_D_eq hD r_Mo_Mo
    refine lv_aload_n hx hb dX9_settle_25 rfl (lv_at hl 0 rfl) ?_
    refine va_get (D := D) (ci := 7) (v := .ref a2) (C := RX9) (T := TX9) (N := 11) hx hb hts in_X9 hown hG.1 hP 0 g_Mo_0 rfl 3 (by decide) k_0 (fun _ h9 => h9) rfl dX9_settle_26 ?_
    refine lv_iload_n hx hb dX9_settle_29 rfl (lv_at hl 1 rfl) ?_
    refine lv_iload_n hx hb dX9_settle_30 rfl (lv_at hl 2 rfl) ?_
    refine lv_iload_n hx hb dX9_settle_31 rfl (lv_at hl 3 rfl) ?_
    refine lv_iload hx hb dX9_settle_32 (lv_at hl 4 rfl) ?_
    refine muS (A0 := A) (wc := (wAr cy a2 (mN (m_X9_remember (mR' mo (m_X9_whyNotSettle (mN mo) x1 x2 x3 x4)))))) (As := [.ref a2, .int x1, .int x2, .int x3, .int x4]) (rest := []) (c_X9_settleOn l D cy a2 (mN (m_X9_remember (mR' mo (m_X9_whyNotSettle (mN mo) x1 x2 x3 x4)))) x1 x2 x3 x4 (wn_Settle_0 hM (rf_zero (wn_nn_Settle _ _ _ _ _) c_1)) (wn_Settle_1 hM (rf_zero (wn_nn_Settle _ _ _ _ _) c_1)) (wn_Settle_2 hM (rf_zero (wn_nn_Settle _ _ _ _ _) c_1)) (wn_Settle_3 hM (rf_zero (wn_nn_Settle _ _ _ _ _) c_1))) hCF gX9_settle_X9_settleOn rfl hd_X9_settleOn ⟨rfl, rfl, Nat.le_of_ble_eq_true rfl, Nat.le_of_ble_eq_true rfl⟩ hG hP hD hS hA [2] rfl c_Mo_Ar2 h_Ar rfl hl.1 rfl (Nat.le_of_ble_eq_true rfl) dX9_settle_34 ⟨Nat.le_refl _, Nat.le_refl _⟩ (fun H locs hP hD hS => ?_)
    have hP : va_P D vwCl (wMo cy a0 a1 a2 a3 a4 a5 a6 (mN' (m_X9_remember (mR' mo (m_X9_whyNotSettle (mN mo) x1 x2 x3 x4))) (m_X9_settleOn (mN (m_X9_remember (mR' mo (m_X9_whyNotSettle (mN mo) x1 x2 x3 x4)))) x1 x2 x3 x4).2)) H := va_P_eq hP r_Mo_Ar2
    have hD : va_D A (wMo cy a0 a1 a2 a3 a4 a5 a6 (mN' (m_X9_remember (mR' mo (m_X9_whyNotSettle (mN mo) x1 x2 x3 x4))) (m_X9_settleOn (mN (m_X9_remember (mR' mo (m_X9_whyNotSettle (mN mo) x1 x2 x3 x4)))) x1 x2 x3 x4).2)) := va_D_eq hD r_Mo_Ar2
    exact mu_iret hx hb hr hlocks hP hS dX9_settle_37 (by rw [m_X9_settle, if_pos c_1]) (by rw [m_X9_settle, if_pos c_1])
  · skip
    refine lv_iconst (v := (0 : Int32)) hx hb dX9_settle_19 (by decide) ?_
    exact mu_iret hx hb hr hlocks hP hS dX9_settle_20 (by rw [m_X9_settle, if_neg c_1]) (by rw [m_X9_settle, if_neg c_1])
def m_X9_buy (mo : MoT) (x1 : Int32) (x2 : Int32) : Int32 × MoT := if (m_X9_refused mo (m_X9_whyNotBuy (mN mo) x1 x2)).1 = (0 : Int32) then ((m_X9_buyOn (mN (m_X9_remember (mR' mo (m_X9_whyNotBuy (mN mo) x1 x2)))) x1 x2).1, mN' (m_X9_remember (mR' mo (m_X9_whyNotBuy (mN mo) x1 x2))) (m_X9_buyOn (mN (m_X9_remember (mR' mo (m_X9_whyNotBuy (mN mo) x1 x2)))) x1 x2).2) else ((0 : Int32), mR' mo (m_X9_whyNotBuy (mN mo) x1 x2))
theorem hd_X9_buy : yX9_buy.cls = RX9 ∧ yX9_buy.cls ≠ "java/lang/invoke/MethodHandle" ∧ yX9_buy.cls ≠ "java/lang/invoke/VarHandle" ∧ (parseMethodDescriptor yX9_buy.desc).map (fun d => d.parameters.length) = some 2 := by decide +kernel
set_option maxHeartbeats 8000000 in
set_option maxRecDepth 20000 in
theorem c_X9_buy (l : Launch) (D : va_G) (cy : Nat → ClassId) (a0 a1 a2 a3 a4 a5 a6 : Nat) (mo : MoT) (x1 : Int32) (x2 : Int32) (hM : rOK (mN mo)) (hAc : iv 0 14 (mA mo)) : MU l D cy yX9_buy wsX9_buy ({ frames := 3, cells := 0, slots := 0, locals := 68 } : Room) (wMo cy a0 a1 a2 a3 a4 a5 a6 mo) (wMo cy a0 a1 a2 a3 a4 a5 a6 (m_X9_buy mo x1 x2).2) [.ref a0, .int x1, .int x2] (m_X9_buy mo x1 x2).1 := by
  refine MU.body (by decide) rfl (Nat.le_of_ble_eq_true rfl) ?_
  intro p e s m below meth c hx hb hml hr hts hown hlocks hP hG ls hl A hD hA hS
  have hl : lv_has ls 3 [(0, .ref a0), (1, .int x1), (2, .int x2)] := hl
  have hCF : CallFix p m c cX9_buy 3 s ([.ref a0, .int x1, .int x2] : List Value).toArray wsX9_buy RX9 := ⟨hx, hb, hml, hown, hts⟩
  have in_X9 : ∀ w ∈ u_ws RX9 TX9 11, w ∈ wsX9_buy := fun _ h => List.mem_cons_of_mem _ (List.mem_append_right _ h)
  have k_0 := hts (Cond.fieldLink RX9 13 "SparePoolModel" "now" "[I") (List.mem_of_getElem? (i := 1) rfl)
  have hP : va_P D vwCl (wMo cy a0 a1 a2 a3 a4 a5 a6 mo) s.heap := hP
  refine lv_aload_n hx hb dX9_buy_0 rfl (lv_at hl 0 rfl) ?_
  refine lv_aload_n hx hb dX9_buy_1 rfl (lv_at hl 0 rfl) ?_
  refine va_get (D := D) (ci := 7) (v := .ref a2) (C := RX9) (T := TX9) (N := 11) hx hb hts in_X9 hown hG.1 hP 0 g_Mo_0 rfl 3 (by decide) k_0 (fun _ h9 => h9) rfl dX9_buy_2 ?_
  refine lv_iload_n hx hb dX9_buy_5 rfl (lv_at hl 1 rfl) ?_
  refine lv_iload_n hx hb dX9_buy_6 rfl (lv_at hl 2 rfl) ?_
  refine roS (wc := (wAr cy a2 (mN mo))) (As := [.ref a2, .int x1, .int x2]) (rest := [.ref a0]) (c_X9_whyNotBuy l D cy a2 (mN mo) x1 x2 hM) hCF gX9_buy_X9_whyNotBuy rfl hd_X9_whyNotBuy ⟨rfl, rfl, Nat.le_of_ble_eq_true rfl, Nat.le_of_ble_eq_true rfl⟩ hG (hP.sub (ws' := (wAr cy a2 (mN mo))) [2] u_Mo_Ar2) rfl hl.1 rfl (Nat.le_of_ble_eq_true rfl) dX9_buy_7 ⟨Nat.le_refl _, Nat.le_refl _⟩ ?_
  refine muV (A0 := A) (wc := (wMo cy a0 a1 a2 a3 a4 a5 a6 mo)) (As := [.int (m_X9_whyNotBuy (mN mo) x1 x2)]) (rest := []) (c_X9_refused l D cy a0 a1 a2 a3 a4 a5 a6 mo (m_X9_whyNotBuy (mN mo) x1 x2)) hCF gX9_buy_X9_refused rfl hd_X9_refused ⟨rfl, rfl, Nat.le_of_ble_eq_true rfl, Nat.le_of_ble_eq_true rfl⟩ hG hP hD hS hA [0, 1, 2, 3, 4, 5, 6] rfl c_Mo_Mo h_Mo (ci := 7) rfl rfl g_Mo_0 rfl hl.1 rfl (Nat.le_of_ble_eq_true rfl) dX9_buy_10 ⟨Nat.le_refl _, Nat.le_refl _⟩ (fun H locs hP hD hS => ?_)
  have hP : va_P D vwCl (wMo cy a0 a1 a2 a3 a4 a5 a6 (mR' mo (m_X9_whyNotBuy (mN mo) x1 x2))) H := va_P_eq hP r_Mo_Mo
  have hD : va_D A (wMo cy a0 a1 a2 a3 a4 a5 a6 (mR' mo (m_X9_whyNotBuy (mN mo) x1 x2))) := va_D_eq hD r_Mo_Mo
  refine lv_if_eq (tgt := 18) hx hb dX9_buy_13 (by decide) (fun c_1 => ?_) (fun c_1 => ?_)
  · skip
    refine lv_aload_n hx hb dX9_buy_18 rfl (lv_at hl 0 rfl) ?_
    refine mvV (A0 := A) (wc := (wMo cy a0 a1 a2 a3 a4 a5 a6 (mR' mo (m_X9_whyNotBuy (mN mo) x1 x2)))) (As := []) (rest := []) (c_X9_remember l D cy a0 a1 a2 a3 a4 a5 a6 (mR' mo (m_X9_whyNotBuy (mN mo) x1 x2)) hAc) hCF gX9_buy_X9_remember rfl hd_X9_remember ⟨rfl, rfl, Nat.le_of_ble_eq_true rfl, Nat.le_of_ble_eq_true rfl⟩ hG hP hD hS hA [0, 1, 2, 3, 4, 5, 6] rfl c_Mo_Mo h_Mo (ci := 7) rfl rfl g_Mo_0 rfl hl.1 rfl (Nat.le_of_ble_eq_true rfl) dX9_buy_19 ⟨Nat.le_refl _, Nat.le_refl _⟩ (fun H locs hP hD hS => ?_)
    have hP : va_P D vwCl (wMo cy a0 a1 a2 a3 a4 a5 a6 (m_X9_remember (mR' mo (m_X9_whyNotBuy (mN mo) x1 x2)))) H := va_P_eq hP r_Mo_Mo
    have hD : va_D A (wMo cy a0 a1 a2 a3 a4 a5 a6 (m_X9_remember (mR' mo (m_X9_whyNotBuy (mN mo) x1 x2)))) := va_D_eq hD r_Mo_Mo
    refine lv_aload_n hx hb dX9_buy_22 rfl (lv_at hl 0 rfl) ?_
    refine va_get (D := D) (ci := 7) (v := .ref a2) (C := RX9) (T := TX9) (N := 11) hx hb hts in_X9 hown hG.1 hP 0 g_Mo_0 rfl 3 (by decide) k_0 (fun _ h9 => h9) rfl dX9_buy_23 ?_
    refine lv_iload_n hx hb dX9_buy_26 rfl (lv_at hl 1 rfl) ?_
    refine lv_iload_n hx hb dX9_buy_27 rfl (lv_at hl 2 rfl) ?_
    refine muS (A0 := A) (wc := (wAr cy a2 (mN (m_X9_remember (mR' mo (m_X9_whyNotBuy (mN mo) x1 x2)))))) (As := [.ref a2, .int x1, .int x2]) (rest := []) (c_X9_buyOn l D cy a2 (mN (m_X9_remember (mR' mo (m_X9_whyNotBuy (mN mo) x1 x2)))) x1 x2 (rem_ok hM) (wn_Buy_0 hM (rf_zero (wn_nn_Buy _ _ _) c_1)) (wn_Buy_1 hM (rf_zero (wn_nn_Buy _ _ _) c_1))) hCF gX9_buy_X9_buyOn rfl hd_X9_buyOn ⟨rfl, rfl, Nat.le_of_ble_eq_true rfl, Nat.le_of_ble_eq_true rfl⟩ hG hP hD hS hA [2] rfl c_Mo_Ar2 h_Ar rfl hl.1 rfl (Nat.le_of_ble_eq_true rfl) dX9_buy_28 ⟨Nat.le_refl _, Nat.le_refl _⟩ (fun H locs hP hD hS => ?_)
    have hP : va_P D vwCl (wMo cy a0 a1 a2 a3 a4 a5 a6 (mN' (m_X9_remember (mR' mo (m_X9_whyNotBuy (mN mo) x1 x2))) (m_X9_buyOn (mN (m_X9_remember (mR' mo (m_X9_whyNotBuy (mN mo) x1 x2)))) x1 x2).2)) H := va_P_eq hP r_Mo_Ar2
    have hD : va_D A (wMo cy a0 a1 a2 a3 a4 a5 a6 (mN' (m_X9_remember (mR' mo (m_X9_whyNotBuy (mN mo) x1 x2))) (m_X9_buyOn (mN (m_X9_remember (mR' mo (m_X9_whyNotBuy (mN mo) x1 x2)))) x1 x2).2)) := va_D_eq hD r_Mo_Ar2
    exact mu_iret hx hb hr hlocks hP hS dX9_buy_31 (by rw [m_X9_buy, if_pos c_1]) (by rw [m_X9_buy, if_pos c_1])
  · skip
    refine lv_iconst (v := (0 : Int32)) hx hb dX9_buy_16 (by decide) ?_
    exact mu_iret hx hb hr hlocks hP hS dX9_buy_17 (by rw [m_X9_buy, if_neg c_1]) (by rw [m_X9_buy, if_neg c_1])
def m_X9_days (mo : MoT) (x1 : Int32) : Int32 × MoT := if (m_X9_in x1.toInt64 (1 : Int64) (99 : Int64)) = (0 : Int32) then ((0 : Int32), mR' mo (1 : Int32)) else ((m_X9_daysOn (mN (m_X9_remember (mR' mo (0 : Int32)))) x1).1, mN' (m_X9_remember (mR' mo (0 : Int32))) (m_X9_daysOn (mN (m_X9_remember (mR' mo (0 : Int32)))) x1).2)
theorem hd_X9_days : yX9_days.cls = RX9 ∧ yX9_days.cls ≠ "java/lang/invoke/MethodHandle" ∧ yX9_days.cls ≠ "java/lang/invoke/VarHandle" ∧ (parseMethodDescriptor yX9_days.desc).map (fun d => d.parameters.length) = some 1 := by decide +kernel
set_option maxHeartbeats 8000000 in
set_option maxRecDepth 20000 in
theorem c_X9_days (l : Launch) (D : va_G) (cy : Nat → ClassId) (a0 a1 a2 a3 a4 a5 a6 : Nat) (mo : MoT) (x1 : Int32) (hAc : iv 0 14 (mA mo)) : MU l D cy yX9_days wsX9_days ({ frames := 2, cells := 0, slots := 0, locals := 45 } : Room) (wMo cy a0 a1 a2 a3 a4 a5 a6 mo) (wMo cy a0 a1 a2 a3 a4 a5 a6 (m_X9_days mo x1).2) [.ref a0, .int x1] (m_X9_days mo x1).1 := by
  refine MU.body (by decide) rfl (Nat.le_of_ble_eq_true rfl) ?_
  intro p e s m below meth c hx hb hml hr hts hown hlocks hP hG ls hl A hD hA hS
  have hl : lv_has ls 2 [(0, .ref a0), (1, .int x1)] := hl
  have hCF : CallFix p m c cX9_days 2 s ([.ref a0, .int x1] : List Value).toArray wsX9_days RX9 := ⟨hx, hb, hml, hown, hts⟩
  have in_X9 : ∀ w ∈ u_ws RX9 TX9 11, w ∈ wsX9_days := fun _ h => List.mem_cons_of_mem _ (List.mem_append_right _ h)
  have k_0 := hts (Cond.constantLong RX9 173 (99)) (List.mem_of_getElem? (i := 1) rfl)
  have k_1 := hts (Cond.fieldLink RX9 13 "SparePoolModel" "now" "[I") (List.mem_of_getElem? (i := 2) rfl)
  have hP : va_P D vwCl (wMo cy a0 a1 a2 a3 a4 a5 a6 mo) s.heap := hP
  refine lv_aload_n hx hb dX9_days_0 rfl (lv_at hl 0 rfl) ?_
  refine lv_iload_n hx hb dX9_days_1 rfl (lv_at hl 1 rfl) ?_
  refine lv_i2l hx hb dX9_days_2 rfl ?_
  refine lv_lconst (v := (1 : Int64)) hx hb dX9_days_3 (by decide) ?_
  refine lv_ldc2 (v := (99 : Int64)) hx hb hown k_0 dX9_days_4 ?_
  refine roS (wc := ([] : va_W)) (As := [.long x1.toInt64, .long (1 : Int64), .long (99 : Int64)]) (rest := [.ref a0]) (c_X9_in l D cy x1.toInt64 (1 : Int64) (99 : Int64)) hCF gX9_days_X9_in rfl hd_X9_in ⟨rfl, rfl, Nat.le_of_ble_eq_true rfl, Nat.le_of_ble_eq_true rfl⟩ hG va_P_nil rfl hl.1 rfl (Nat.le_of_ble_eq_true rfl) dX9_days_7 ⟨Nat.le_refl _, Nat.le_refl _⟩ ?_
  refine lv_if_eq (tgt := 17) hx hb dX9_days_10 (by decide) (fun c_1 => ?_) (fun c_1 => ?_)
  · skip
    refine lv_iconst (v := (1 : Int32)) hx hb dX9_days_17 (by decide) ?_
    refine muV (A0 := A) (wc := (wMo cy a0 a1 a2 a3 a4 a5 a6 mo)) (As := [.int (1 : Int32)]) (rest := []) (c_X9_refused l D cy a0 a1 a2 a3 a4 a5 a6 mo (1 : Int32)) hCF gX9_days_X9_refused rfl hd_X9_refused ⟨rfl, rfl, Nat.le_of_ble_eq_true rfl, Nat.le_of_ble_eq_true rfl⟩ hG hP hD hS hA [0, 1, 2, 3, 4, 5, 6] rfl c_Mo_Mo h_Mo (ci := 7) rfl rfl g_Mo_0 rfl hl.1 rfl (Nat.le_of_ble_eq_true rfl) dX9_days_18 ⟨Nat.le_refl _, Nat.le_refl _⟩ (fun H locs hP hD hS => ?_)
    have hP : va_P D vwCl (wMo cy a0 a1 a2 a3 a4 a5 a6 (mR' mo (1 : Int32))) H := va_P_eq hP r_Mo_Mo
    have hD : va_D A (wMo cy a0 a1 a2 a3 a4 a5 a6 (mR' mo (1 : Int32))) := va_D_eq hD r_Mo_Mo
    refine lv_if_eq (tgt := 26) hx hb dX9_days_21 (by decide) (fun c => absurd c (rf_lit1 _)) (fun _ => ?_)
    refine lv_iconst (v := (0 : Int32)) hx hb dX9_days_24 (by decide) ?_
    exact mu_iret hx hb hr hlocks hP hS dX9_days_25 (by rw [m_X9_days, if_pos c_1]) (by rw [m_X9_days, if_pos c_1])
  · skip
    refine lv_iconst (v := (0 : Int32)) hx hb dX9_days_13 (by decide) ?_
    refine lv_goto (tgt := 18) hx hb dX9_days_14 (by decide) ?_
    refine muV (A0 := A) (wc := (wMo cy a0 a1 a2 a3 a4 a5 a6 mo)) (As := [.int (0 : Int32)]) (rest := []) (c_X9_refused l D cy a0 a1 a2 a3 a4 a5 a6 mo (0 : Int32)) hCF gX9_days_X9_refused rfl hd_X9_refused ⟨rfl, rfl, Nat.le_of_ble_eq_true rfl, Nat.le_of_ble_eq_true rfl⟩ hG hP hD hS hA [0, 1, 2, 3, 4, 5, 6] rfl c_Mo_Mo h_Mo (ci := 7) rfl rfl g_Mo_0 rfl hl.1 rfl (Nat.le_of_ble_eq_true rfl) dX9_days_18 ⟨Nat.le_refl _, Nat.le_refl _⟩ (fun H locs hP hD hS => ?_)
    have hP : va_P D vwCl (wMo cy a0 a1 a2 a3 a4 a5 a6 (mR' mo (0 : Int32))) H := va_P_eq hP r_Mo_Mo
    have hD : va_D A (wMo cy a0 a1 a2 a3 a4 a5 a6 (mR' mo (0 : Int32))) := va_D_eq hD r_Mo_Mo
    refine lv_if_eq (tgt := 26) hx hb dX9_days_21 (by decide) (fun _ => ?_) (fun c => absurd (rf_lit0 _) c)
    refine lv_aload_n hx hb dX9_days_26 rfl (lv_at hl 0 rfl) ?_
    refine mvV (A0 := A) (wc := (wMo cy a0 a1 a2 a3 a4 a5 a6 (mR' mo (0 : Int32)))) (As := []) (rest := []) (c_X9_remember l D cy a0 a1 a2 a3 a4 a5 a6 (mR' mo (0 : Int32)) hAc) hCF gX9_days_X9_remember rfl hd_X9_remember ⟨rfl, rfl, Nat.le_of_ble_eq_true rfl, Nat.le_of_ble_eq_true rfl⟩ hG hP hD hS hA [0, 1, 2, 3, 4, 5, 6] rfl c_Mo_Mo h_Mo (ci := 7) rfl rfl g_Mo_0 rfl hl.1 rfl (Nat.le_of_ble_eq_true rfl) dX9_days_27 ⟨Nat.le_refl _, Nat.le_refl _⟩ (fun H locs hP hD hS => ?_)
    have hP : va_P D vwCl (wMo cy a0 a1 a2 a3 a4 a5 a6 (m_X9_remember (mR' mo (0 : Int32)))) H := va_P_eq hP r_Mo_Mo
    have hD : va_D A (wMo cy a0 a1 a2 a3 a4 a5 a6 (m_X9_remember (mR' mo (0 : Int32)))) := va_D_eq hD r_Mo_Mo
    refine lv_aload_n hx hb dX9_days_30 rfl (lv_at hl 0 rfl) ?_
    refine va_get (D := D) (ci := 7) (v := .ref a2) (C := RX9) (T := TX9) (N := 11) hx hb hts in_X9 hown hG.1 hP 0 g_Mo_0 rfl 3 (by decide) k_1 (fun _ h9 => h9) rfl dX9_days_31 ?_
    refine lv_iload_n hx hb dX9_days_34 rfl (lv_at hl 1 rfl) ?_
    refine muS (A0 := A) (wc := (wAr cy a2 (mN (m_X9_remember (mR' mo (0 : Int32)))))) (As := [.ref a2, .int x1]) (rest := []) (c_X9_daysOn l D cy a2 (mN (m_X9_remember (mR' mo (0 : Int32)))) x1) hCF gX9_days_X9_daysOn rfl hd_X9_daysOn ⟨rfl, rfl, Nat.le_of_ble_eq_true rfl, Nat.le_of_ble_eq_true rfl⟩ hG hP hD hS hA [2] rfl c_Mo_Ar2 h_Ar rfl hl.1 rfl (Nat.le_of_ble_eq_true rfl) dX9_days_35 ⟨Nat.le_refl _, Nat.le_refl _⟩ (fun H locs hP hD hS => ?_)
    have hP : va_P D vwCl (wMo cy a0 a1 a2 a3 a4 a5 a6 (mN' (m_X9_remember (mR' mo (0 : Int32))) (m_X9_daysOn (mN (m_X9_remember (mR' mo (0 : Int32)))) x1).2)) H := va_P_eq hP r_Mo_Ar2
    have hD : va_D A (wMo cy a0 a1 a2 a3 a4 a5 a6 (mN' (m_X9_remember (mR' mo (0 : Int32))) (m_X9_daysOn (mN (m_X9_remember (mR' mo (0 : Int32)))) x1).2)) := va_D_eq hD r_Mo_Ar2
    exact mu_iret hx hb hr hlocks hP hS dX9_days_38 (by rw [m_X9_days, if_neg c_1]) (by rw [m_X9_days, if_neg c_1])
def m_X9_set (mo : MoT) (x1 : Int32) (x2 : Int32) : Int32 × MoT := if x1 = (0 : Int32) then if (m_X9_in x2.toInt64 (0 : Int64) (99 : Int64)) = (0 : Int32) then if (m_X9_in x1.toInt64 (1 : Int64) (2 : Int64)) = (0 : Int32) then ((0 : Int32), mR' mo (1 : Int32)) else if (m_X9_in x2.toInt64 (0 : Int64) (999 : Int64)) = (0 : Int32) then ((0 : Int32), mR' mo (1 : Int32)) else ((mN (m_X9_remember (mR' mo (0 : Int32)))) ((2 : Int32) + x1).toNatClampNeg, mN' (m_X9_remember (mR' mo (0 : Int32))) (upd (mN (m_X9_remember (mR' mo (0 : Int32)))) ((2 : Int32) + x1).toNatClampNeg x2)) else ((mN (m_X9_remember (mR' mo (0 : Int32)))) ((2 : Int32) + x1).toNatClampNeg, mN' (m_X9_remember (mR' mo (0 : Int32))) (upd (mN (m_X9_remember (mR' mo (0 : Int32)))) ((2 : Int32) + x1).toNatClampNeg x2)) else if (m_X9_in x1.toInt64 (1 : Int64) (2 : Int64)) = (0 : Int32) then ((0 : Int32), mR' mo (1 : Int32)) else if (m_X9_in x2.toInt64 (0 : Int64) (999 : Int64)) = (0 : Int32) then ((0 : Int32), mR' mo (1 : Int32)) else ((mN (m_X9_remember (mR' mo (0 : Int32)))) ((2 : Int32) + x1).toNatClampNeg, mN' (m_X9_remember (mR' mo (0 : Int32))) (upd (mN (m_X9_remember (mR' mo (0 : Int32)))) ((2 : Int32) + x1).toNatClampNeg x2))
theorem hd_X9_set : yX9_set.cls = RX9 ∧ yX9_set.cls ≠ "java/lang/invoke/MethodHandle" ∧ yX9_set.cls ≠ "java/lang/invoke/VarHandle" ∧ (parseMethodDescriptor yX9_set.desc).map (fun d => d.parameters.length) = some 2 := by decide +kernel
set_option maxHeartbeats 8000000 in
set_option maxRecDepth 20000 in
theorem c_X9_set (l : Launch) (D : va_G) (cy : Nat → ClassId) (a0 a1 a2 a3 a4 a5 a6 : Nat) (mo : MoT) (x1 : Int32) (x2 : Int32) (hAc : iv 0 14 (mA mo)) : MU l D cy yX9_set wsX9_set ({ frames := 2, cells := 0, slots := 0, locals := 45 } : Room) (wMo cy a0 a1 a2 a3 a4 a5 a6 mo) (wMo cy a0 a1 a2 a3 a4 a5 a6 (m_X9_set mo x1 x2).2) [.ref a0, .int x1, .int x2] (m_X9_set mo x1 x2).1 := by
  refine MU.body (by decide) rfl (Nat.le_of_ble_eq_true rfl) ?_
  intro p e s m below meth c hx hb hml hr hts hown hlocks hP hG ls hl A hD hA hS
  have hl : lv_has ls 4 [(0, .ref a0), (1, .int x1), (2, .int x2)] := hl
  have hCF : CallFix p m c cX9_set 4 s ([.ref a0, .int x1, .int x2] : List Value).toArray wsX9_set RX9 := ⟨hx, hb, hml, hown, hts⟩
  have in_X9 : ∀ w ∈ u_ws RX9 TX9 11, w ∈ wsX9_set := fun _ h => List.mem_cons_of_mem _ (List.mem_append_right _ h)
  have k_0 := hts (Cond.constantLong RX9 43 (2)) (List.mem_of_getElem? (i := 2) rfl)
  have k_1 := hts (Cond.constantLong RX9 227 (999)) (List.mem_of_getElem? (i := 3) rfl)
  have k_2 := hts (Cond.fieldLink RX9 13 "SparePoolModel" "now" "[I") (List.mem_of_getElem? (i := 4) rfl)
  have k_3 := hts (Cond.constantLong RX9 173 (99)) (List.mem_of_getElem? (i := 1) rfl)
  have hP : va_P D vwCl (wMo cy a0 a1 a2 a3 a4 a5 a6 mo) s.heap := hP
  refine lv_aload_n hx hb dX9_set_0 rfl (lv_at hl 0 rfl) ?_
  refine lv_iload_n hx hb dX9_set_1 rfl (lv_at hl 1 rfl) ?_
  refine lv_if_ne (tgt := 17) hx hb dX9_set_2 (by decide) (fun c_1 => ?_) (fun c_1 => ?_)
  · skip
    refine lv_iload_n hx hb dX9_set_17 rfl (lv_at hl 1 rfl) ?_
    refine lv_i2l hx hb dX9_set_18 rfl ?_
    refine lv_lconst (v := (1 : Int64)) hx hb dX9_set_19 (by decide) ?_
    refine lv_ldc2 (v := (2 : Int64)) hx hb hown k_0 dX9_set_20 ?_
    refine roS (wc := ([] : va_W)) (As := [.long x1.toInt64, .long (1 : Int64), .long (2 : Int64)]) (rest := [.ref a0]) (c_X9_in l D cy x1.toInt64 (1 : Int64) (2 : Int64)) hCF gX9_set_X9_in rfl hd_X9_in ⟨rfl, rfl, Nat.le_of_ble_eq_true rfl, Nat.le_of_ble_eq_true rfl⟩ hG va_P_nil rfl hl.1 rfl (Nat.le_of_ble_eq_true rfl) dX9_set_23 ⟨Nat.le_refl _, Nat.le_refl _⟩ ?_
    refine lv_if_eq (tgt := 45) hx hb dX9_set_26 (by decide) (fun c_2 => ?_) (fun c_2 => ?_)
    · skip
      refine lv_iconst (v := (1 : Int32)) hx hb dX9_set_45 (by decide) ?_
      refine muV (A0 := A) (wc := (wMo cy a0 a1 a2 a3 a4 a5 a6 mo)) (As := [.int (1 : Int32)]) (rest := []) (c_X9_refused l D cy a0 a1 a2 a3 a4 a5 a6 mo (1 : Int32)) hCF gX9_set_X9_refused rfl hd_X9_refused ⟨rfl, rfl, Nat.le_of_ble_eq_true rfl, Nat.le_of_ble_eq_true rfl⟩ hG hP hD hS hA [0, 1, 2, 3, 4, 5, 6] rfl c_Mo_Mo h_Mo (ci := 7) rfl rfl g_Mo_0 rfl hl.1 rfl (Nat.le_of_ble_eq_true rfl) dX9_set_46 ⟨Nat.le_refl _, Nat.le_refl _⟩ (fun H locs hP hD hS => ?_)
      have hP : va_P D vwCl (wMo cy a0 a1 a2 a3 a4 a5 a6 (mR' mo (1 : Int32))) H := va_P_eq hP r_Mo_Mo
      have hD : va_D A (wMo cy a0 a1 a2 a3 a4 a5 a6 (mR' mo (1 : Int32))) := va_D_eq hD r_Mo_Mo
      refine lv_if_eq (tgt := 54) hx hb dX9_set_49 (by decide) (fun c => absurd c (rf_lit1 _)) (fun _ => ?_)
      refine lv_iconst (v := (0 : Int32)) hx hb dX9_set_52 (by decide) ?_
      exact mu_iret hx hb hr hlocks hP hS dX9_set_53 (by rw [m_X9_set, if_neg c_1, if_pos c_2]) (by rw [m_X9_set, if_neg c_1, if_pos c_2])
    · skip
      refine lv_iload_n hx hb dX9_set_29 rfl (lv_at hl 2 rfl) ?_
      refine lv_i2l hx hb dX9_set_30 rfl ?_
      refine lv_lconst (v := (0 : Int64)) hx hb dX9_set_31 (by decide) ?_
      refine lv_ldc2 (v := (999 : Int64)) hx hb hown k_1 dX9_set_32 ?_
      refine roS (wc := ([] : va_W)) (As := [.long x2.toInt64, .long (0 : Int64), .long (999 : Int64)]) (rest := [.ref a0]) (c_X9_in l D cy x2.toInt64 (0 : Int64) (999 : Int64)) hCF gX9_set_X9_in rfl hd_X9_in ⟨rfl, rfl, Nat.le_of_ble_eq_true rfl, Nat.le_of_ble_eq_true rfl⟩ hG va_P_nil rfl hl.1 rfl (Nat.le_of_ble_eq_true rfl) dX9_set_35 ⟨Nat.le_refl _, Nat.le_refl _⟩ ?_
      refine lv_if_eq (tgt := 45) hx hb dX9_set_38 (by decide) (fun c_3 => ?_) (fun c_3 => ?_)
      · skip
        refine lv_iconst (v := (1 : Int32)) hx hb dX9_set_45 (by decide) ?_
        refine muV (A0 := A) (wc := (wMo cy a0 a1 a2 a3 a4 a5 a6 mo)) (As := [.int (1 : Int32)]) (rest := []) (c_X9_refused l D cy a0 a1 a2 a3 a4 a5 a6 mo (1 : Int32)) hCF gX9_set_X9_refused rfl hd_X9_refused ⟨rfl, rfl, Nat.le_of_ble_eq_true rfl, Nat.le_of_ble_eq_true rfl⟩ hG hP hD hS hA [0, 1, 2, 3, 4, 5, 6] rfl c_Mo_Mo h_Mo (ci := 7) rfl rfl g_Mo_0 rfl hl.1 rfl (Nat.le_of_ble_eq_true rfl) dX9_set_46 ⟨Nat.le_refl _, Nat.le_refl _⟩ (fun H locs hP hD hS => ?_)
        have hP : va_P D vwCl (wMo cy a0 a1 a2 a3 a4 a5 a6 (mR' mo (1 : Int32))) H := va_P_eq hP r_Mo_Mo
        have hD : va_D A (wMo cy a0 a1 a2 a3 a4 a5 a6 (mR' mo (1 : Int32))) := va_D_eq hD r_Mo_Mo
        refine lv_if_eq (tgt := 54) hx hb dX9_set_49 (by decide) (fun c => absurd c (rf_lit1 _)) (fun _ => ?_)
        refine lv_iconst (v := (0 : Int32)) hx hb dX9_set_52 (by decide) ?_
        exact mu_iret hx hb hr hlocks hP hS dX9_set_53 (by rw [m_X9_set, if_neg c_1, if_neg c_2, if_pos c_3]) (by rw [m_X9_set, if_neg c_1, if_neg c_2, if_pos c_3])
      · skip
        refine lv_iconst (v := (0 : Int32)) hx hb dX9_set_41 (by decide) ?_
        refine lv_goto (tgt := 46) hx hb dX9_set_42 (by decide) ?_
        refine muV (A0 := A) (wc := (wMo cy a0 a1 a2 a3 a4 a5 a6 mo)) (As := [.int (0 : Int32)]) (rest := []) (c_X9_refused l D cy a0 a1 a2 a3 a4 a5 a6 mo (0 : Int32)) hCF gX9_set_X9_refused rfl hd_X9_refused ⟨rfl, rfl, Nat.le_of_ble_eq_true rfl, Nat.le_of_ble_eq_true rfl⟩ hG hP hD hS hA [0, 1, 2, 3, 4, 5, 6] rfl c_Mo_Mo h_Mo (ci := 7) rfl rfl g_Mo_0 rfl hl.1 rfl (Nat.le_of_ble_eq_true rfl) dX9_set_46 ⟨Nat.le_refl _, Nat.le_refl _⟩ (fun H locs hP hD hS => ?_)
        have hP : va_P D vwCl (wMo cy a0 a1 a2 a3 a4 a5 a6 (mR' mo (0 : Int32))) H := va_P_eq hP r_Mo_Mo
        have hD : va_D A (wMo cy a0 a1 a2 a3 a4 a5 a6 (mR' mo (0 : Int32))) := va_D_eq hD r_Mo_Mo
        refine lv_if_eq (tgt := 54) hx hb dX9_set_49 (by decide) (fun _ => ?_) (fun c => absurd (rf_lit0 _) c)
        refine lv_aload_n hx hb dX9_set_54 rfl (lv_at hl 0 rfl) ?_
        refine mvV (A0 := A) (wc := (wMo cy a0 a1 a2 a3 a4 a5 a6 (mR' mo (0 : Int32)))) (As := []) (rest := []) (c_X9_remember l D cy a0 a1 a2 a3 a4 a5 a6 (mR' mo (0 : Int32)) hAc) hCF gX9_set_X9_remember rfl hd_X9_remember ⟨rfl, rfl, Nat.le_of_ble_eq_true rfl, Nat.le_of_ble_eq_true rfl⟩ hG hP hD hS hA [0, 1, 2, 3, 4, 5, 6] rfl c_Mo_Mo h_Mo (ci := 7) rfl rfl g_Mo_0 rfl hl.1 rfl (Nat.le_of_ble_eq_true rfl) dX9_set_55 ⟨Nat.le_refl _, Nat.le_refl _⟩ (fun H locs hP hD hS => ?_)
        have hP : va_P D vwCl (wMo cy a0 a1 a2 a3 a4 a5 a6 (m_X9_remember (mR' mo (0 : Int32)))) H := va_P_eq hP r_Mo_Mo
        have hD : va_D A (wMo cy a0 a1 a2 a3 a4 a5 a6 (m_X9_remember (mR' mo (0 : Int32)))) := va_D_eq hD r_Mo_Mo
        refine lv_aload_n hx hb dX9_set_58 rfl (lv_at hl 0 rfl) ?_
        refine va_get (D := D) (ci := 7) (v := .ref a2) (C := RX9) (T := TX9) (N := 11) hx hb hts in_X9 hown hG.1 hP 0 g_Mo_0 rfl 3 (by decide) k_2 (fun _ h9 => h9) rfl dX9_set_59 ?_
        refine lv_iconst (v := (2 : Int32)) hx hb dX9_set_62 (by decide) ?_
        refine lv_iload_n hx hb dX9_set_63 rfl (lv_at hl 1 rfl) ?_
        refine lv_iadd hx hb dX9_set_64 ?_
        refine va_iald hx hb hG.1 hP 2 0 (n := 383) (f := (mN (m_X9_remember (mR' mo (0 : Int32))))) g_Mo_2 rfl (iv_in (iv_add (l := 3) (h := 4) (iv_lit (v := 2) (by decide)) (iv_min (lo := 1) (hi := 2) c_2) (by decide)) (by decide) (by decide)) dX9_set_65 ?_
        refine lv_istore_n (lv' := [(3, .int ((mN (m_X9_remember (mR' mo (0 : Int32)))) ((2 : Int32) + x1).toNatClampNeg)), (0, .ref a0), (1, .int x1), (2, .int x2)]) hx hb dX9_set_66 rfl hl (by decide) rfl (fun ls hl => ?_)
        refine lv_aload_n hx hb dX9_set_67 rfl (lv_at hl 1 rfl) ?_
        refine va_get (D := D) (ci := 7) (v := .ref a2) (C := RX9) (T := TX9) (N := 11) hx hb hts in_X9 hown hG.1 hP 0 g_Mo_0 rfl 3 (by decide) k_2 (fun _ h9 => h9) rfl dX9_set_68 ?_
        refine lv_iconst (v := (2 : Int32)) hx hb dX9_set_71 (by decide) ?_
        refine lv_iload_n hx hb dX9_set_72 rfl (lv_at hl 2 rfl) ?_
        refine lv_iadd hx hb dX9_set_73 ?_
        refine lv_iload_n hx hb dX9_set_74 rfl (lv_at hl 3 rfl) ?_
        refine va_iast hx hb hG.1 hP hD hS 2 0 (n := 383) (f := (mN (m_X9_remember (mR' mo (0 : Int32))))) g_Mo_2 rfl (iv_in (iv_add (l := 3) (h := 4) (iv_lit (v := 2) (by decide)) (iv_min (lo := 1) (hi := 2) c_2) (by decide)) (by decide) (by decide)) dX9_set_75 (fun H locs hP hD hS => ?_)
        have hP : va_P D vwCl (wMo cy a0 a1 a2 a3 a4 a5 a6 (mN' (m_X9_remember (mR' mo (0 : Int32))) (upd (mN (m_X9_remember (mR' mo (0 : Int32)))) ((2 : Int32) + x1).toNatClampNeg x2))) H := va_P_eq hP s_Mo_2
        have hD : va_D A (wMo cy a0 a1 a2 a3 a4 a5 a6 (mN' (m_X9_remember (mR' mo (0 : Int32))) (upd (mN (m_X9_remember (mR' mo (0 : Int32)))) ((2 : Int32) + x1).toNatClampNeg x2))) := va_D_eq hD s_Mo_2
        refine lv_iload_n hx hb dX9_set_76 rfl (lv_at hl 0 rfl) ?_
        exact mu_iret hx hb hr hlocks hP hS dX9_set_77 (by rw [m_X9_set, if_neg c_1, if_neg c_2, if_neg c_3]) (by rw [m_X9_set, if_neg c_1, if_neg c_2, if_neg c_3])
  · skip
    refine lv_iload_n hx hb dX9_set_5 rfl (lv_at hl 2 rfl) ?_
    refine lv_i2l hx hb dX9_set_6 rfl ?_
    refine lv_lconst (v := (0 : Int64)) hx hb dX9_set_7 (by decide) ?_
    refine lv_ldc2 (v := (99 : Int64)) hx hb hown k_3 dX9_set_8 ?_
    refine roS (wc := ([] : va_W)) (As := [.long x2.toInt64, .long (0 : Int64), .long (99 : Int64)]) (rest := [.ref a0]) (c_X9_in l D cy x2.toInt64 (0 : Int64) (99 : Int64)) hCF gX9_set_X9_in rfl hd_X9_in ⟨rfl, rfl, Nat.le_of_ble_eq_true rfl, Nat.le_of_ble_eq_true rfl⟩ hG va_P_nil rfl hl.1 rfl (Nat.le_of_ble_eq_true rfl) dX9_set_11 ⟨Nat.le_refl _, Nat.le_refl _⟩ ?_
    refine lv_if_ne (tgt := 41) hx hb dX9_set_14 (by decide) (fun c_4 => ?_) (fun c_4 => ?_)
    · skip
      refine lv_iconst (v := (0 : Int32)) hx hb dX9_set_41 (by decide) ?_
      refine lv_goto (tgt := 46) hx hb dX9_set_42 (by decide) ?_
      refine muV (A0 := A) (wc := (wMo cy a0 a1 a2 a3 a4 a5 a6 mo)) (As := [.int (0 : Int32)]) (rest := []) (c_X9_refused l D cy a0 a1 a2 a3 a4 a5 a6 mo (0 : Int32)) hCF gX9_set_X9_refused rfl hd_X9_refused ⟨rfl, rfl, Nat.le_of_ble_eq_true rfl, Nat.le_of_ble_eq_true rfl⟩ hG hP hD hS hA [0, 1, 2, 3, 4, 5, 6] rfl c_Mo_Mo h_Mo (ci := 7) rfl rfl g_Mo_0 rfl hl.1 rfl (Nat.le_of_ble_eq_true rfl) dX9_set_46 ⟨Nat.le_refl _, Nat.le_refl _⟩ (fun H locs hP hD hS => ?_)
      have hP : va_P D vwCl (wMo cy a0 a1 a2 a3 a4 a5 a6 (mR' mo (0 : Int32))) H := va_P_eq hP r_Mo_Mo
      have hD : va_D A (wMo cy a0 a1 a2 a3 a4 a5 a6 (mR' mo (0 : Int32))) := va_D_eq hD r_Mo_Mo
      refine lv_if_eq (tgt := 54) hx hb dX9_set_49 (by decide) (fun _ => ?_) (fun c => absurd (rf_lit0 _) c)
      refine lv_aload_n hx hb dX9_set_54 rfl (lv_at hl 0 rfl) ?_
      refine mvV (A0 := A) (wc := (wMo cy a0 a1 a2 a3 a4 a5 a6 (mR' mo (0 : Int32)))) (As := []) (rest := []) (c_X9_remember l D cy a0 a1 a2 a3 a4 a5 a6 (mR' mo (0 : Int32)) hAc) hCF gX9_set_X9_remember rfl hd_X9_remember ⟨rfl, rfl, Nat.le_of_ble_eq_true rfl, Nat.le_of_ble_eq_true rfl⟩ hG hP hD hS hA [0, 1, 2, 3, 4, 5, 6] rfl c_Mo_Mo h_Mo (ci := 7) rfl rfl g_Mo_0 rfl hl.1 rfl (Nat.le_of_ble_eq_true rfl) dX9_set_55 ⟨Nat.le_refl _, Nat.le_refl _⟩ (fun H locs hP hD hS => ?_)
      have hP : va_P D vwCl (wMo cy a0 a1 a2 a3 a4 a5 a6 (m_X9_remember (mR' mo (0 : Int32)))) H := va_P_eq hP r_Mo_Mo
      have hD : va_D A (wMo cy a0 a1 a2 a3 a4 a5 a6 (m_X9_remember (mR' mo (0 : Int32)))) := va_D_eq hD r_Mo_Mo
      refine lv_aload_n hx hb dX9_set_58 rfl (lv_at hl 0 rfl) ?_
      refine va_get (D := D) (ci := 7) (v := .ref a2) (C := RX9) (T := TX9) (N := 11) hx hb hts in_X9 hown hG.1 hP 0 g_Mo_0 rfl 3 (by decide) k_2 (fun _ h9 => h9) rfl dX9_set_59 ?_
      refine lv_iconst (v := (2 : Int32)) hx hb dX9_set_62 (by decide) ?_
      refine lv_iload_n hx hb dX9_set_63 rfl (lv_at hl 1 rfl) ?_
      refine lv_iadd hx hb dX9_set_64 ?_
      refine va_iald hx hb hG.1 hP 2 0 (n := 383) (f := (mN (m_X9_remember (mR' mo (0 : Int32))))) g_Mo_2 rfl (iv_in (iv_add (l := 2) (h := 2) (iv_lit (v := 2) (by decide)) (iv_eq (v := 0) c_1 (by decide)) (by decide)) (by decide) (by decide)) dX9_set_65 ?_
      refine lv_istore_n (lv' := [(3, .int ((mN (m_X9_remember (mR' mo (0 : Int32)))) ((2 : Int32) + x1).toNatClampNeg)), (0, .ref a0), (1, .int x1), (2, .int x2)]) hx hb dX9_set_66 rfl hl (by decide) rfl (fun ls hl => ?_)
      refine lv_aload_n hx hb dX9_set_67 rfl (lv_at hl 1 rfl) ?_
      refine va_get (D := D) (ci := 7) (v := .ref a2) (C := RX9) (T := TX9) (N := 11) hx hb hts in_X9 hown hG.1 hP 0 g_Mo_0 rfl 3 (by decide) k_2 (fun _ h9 => h9) rfl dX9_set_68 ?_
      refine lv_iconst (v := (2 : Int32)) hx hb dX9_set_71 (by decide) ?_
      refine lv_iload_n hx hb dX9_set_72 rfl (lv_at hl 2 rfl) ?_
      refine lv_iadd hx hb dX9_set_73 ?_
      refine lv_iload_n hx hb dX9_set_74 rfl (lv_at hl 3 rfl) ?_
      refine va_iast hx hb hG.1 hP hD hS 2 0 (n := 383) (f := (mN (m_X9_remember (mR' mo (0 : Int32))))) g_Mo_2 rfl (iv_in (iv_add (l := 2) (h := 2) (iv_lit (v := 2) (by decide)) (iv_eq (v := 0) c_1 (by decide)) (by decide)) (by decide) (by decide)) dX9_set_75 (fun H locs hP hD hS => ?_)
      have hP : va_P D vwCl (wMo cy a0 a1 a2 a3 a4 a5 a6 (mN' (m_X9_remember (mR' mo (0 : Int32))) (upd (mN (m_X9_remember (mR' mo (0 : Int32)))) ((2 : Int32) + x1).toNatClampNeg x2))) H := va_P_eq hP s_Mo_2
      have hD : va_D A (wMo cy a0 a1 a2 a3 a4 a5 a6 (mN' (m_X9_remember (mR' mo (0 : Int32))) (upd (mN (m_X9_remember (mR' mo (0 : Int32)))) ((2 : Int32) + x1).toNatClampNeg x2))) := va_D_eq hD s_Mo_2
      refine lv_iload_n hx hb dX9_set_76 rfl (lv_at hl 0 rfl) ?_
      exact mu_iret hx hb hr hlocks hP hS dX9_set_77 (by rw [m_X9_set, if_pos c_1, if_neg c_4]) (by rw [m_X9_set, if_pos c_1, if_neg c_4])
    · skip
      refine lv_iload_n hx hb dX9_set_17 rfl (lv_at hl 1 rfl) ?_
      refine lv_i2l hx hb dX9_set_18 rfl ?_
      refine lv_lconst (v := (1 : Int64)) hx hb dX9_set_19 (by decide) ?_
      refine lv_ldc2 (v := (2 : Int64)) hx hb hown k_0 dX9_set_20 ?_
      refine roS (wc := ([] : va_W)) (As := [.long x1.toInt64, .long (1 : Int64), .long (2 : Int64)]) (rest := [.ref a0]) (c_X9_in l D cy x1.toInt64 (1 : Int64) (2 : Int64)) hCF gX9_set_X9_in rfl hd_X9_in ⟨rfl, rfl, Nat.le_of_ble_eq_true rfl, Nat.le_of_ble_eq_true rfl⟩ hG va_P_nil rfl hl.1 rfl (Nat.le_of_ble_eq_true rfl) dX9_set_23 ⟨Nat.le_refl _, Nat.le_refl _⟩ ?_
      refine lv_if_eq (tgt := 45) hx hb dX9_set_26 (by decide) (fun c_5 => ?_) (fun c_5 => ?_)
      · skip
        refine lv_iconst (v := (1 : Int32)) hx hb dX9_set_45 (by decide) ?_
        refine muV (A0 := A) (wc := (wMo cy a0 a1 a2 a3 a4 a5 a6 mo)) (As := [.int (1 : Int32)]) (rest := []) (c_X9_refused l D cy a0 a1 a2 a3 a4 a5 a6 mo (1 : Int32)) hCF gX9_set_X9_refused rfl hd_X9_refused ⟨rfl, rfl, Nat.le_of_ble_eq_true rfl, Nat.le_of_ble_eq_true rfl⟩ hG hP hD hS hA [0, 1, 2, 3, 4, 5, 6] rfl c_Mo_Mo h_Mo (ci := 7) rfl rfl g_Mo_0 rfl hl.1 rfl (Nat.le_of_ble_eq_true rfl) dX9_set_46 ⟨Nat.le_refl _, Nat.le_refl _⟩ (fun H locs hP hD hS => ?_)
        have hP : va_P D vwCl (wMo cy a0 a1 a2 a3 a4 a5 a6 (mR' mo (1 : Int32))) H := va_P_eq hP r_Mo_Mo
        have hD : va_D A (wMo cy a0 a1 a2 a3 a4 a5 a6 (mR' mo (1 : Int32))) := va_D_eq hD r_Mo_Mo
        refine lv_if_eq (tgt := 54) hx hb dX9_set_49 (by decide) (fun c => absurd c (rf_lit1 _)) (fun _ => ?_)
        refine lv_iconst (v := (0 : Int32)) hx hb dX9_set_52 (by decide) ?_
        exact mu_iret hx hb hr hlocks hP hS dX9_set_53 (by rw [m_X9_set, if_pos c_1, if_pos c_4, if_pos c_5]) (by rw [m_X9_set, if_pos c_1, if_pos c_4, if_pos c_5])
      · skip
        refine lv_iload_n hx hb dX9_set_29 rfl (lv_at hl 2 rfl) ?_
        refine lv_i2l hx hb dX9_set_30 rfl ?_
        refine lv_lconst (v := (0 : Int64)) hx hb dX9_set_31 (by decide) ?_
        refine lv_ldc2 (v := (999 : Int64)) hx hb hown k_1 dX9_set_32 ?_
        refine roS (wc := ([] : va_W)) (As := [.long x2.toInt64, .long (0 : Int64), .long (999 : Int64)]) (rest := [.ref a0]) (c_X9_in l D cy x2.toInt64 (0 : Int64) (999 : Int64)) hCF gX9_set_X9_in rfl hd_X9_in ⟨rfl, rfl, Nat.le_of_ble_eq_true rfl, Nat.le_of_ble_eq_true rfl⟩ hG va_P_nil rfl hl.1 rfl (Nat.le_of_ble_eq_true rfl) dX9_set_35 ⟨Nat.le_refl _, Nat.le_refl _⟩ ?_
        refine lv_if_eq (tgt := 45) hx hb dX9_set_38 (by decide) (fun c_6 => ?_) (fun c_6 => ?_)
        · skip
          refine lv_iconst (v := (1 : Int32)) hx hb dX9_set_45 (by decide) ?_
          refine muV (A0 := A) (wc := (wMo cy a0 a1 a2 a3 a4 a5 a6 mo)) (As := [.int (1 : Int32)]) (rest := []) (c_X9_refused l D cy a0 a1 a2 a3 a4 a5 a6 mo (1 : Int32)) hCF gX9_set_X9_refused rfl hd_X9_refused ⟨rfl, rfl, Nat.le_of_ble_eq_true rfl, Nat.le_of_ble_eq_true rfl⟩ hG hP hD hS hA [0, 1, 2, 3, 4, 5, 6] rfl c_Mo_Mo h_Mo (ci := 7) rfl rfl g_Mo_0 rfl hl.1 rfl (Nat.le_of_ble_eq_true rfl) dX9_set_46 ⟨Nat.le_refl _, Nat.le_refl _⟩ (fun H locs hP hD hS => ?_)
          have hP : va_P D vwCl (wMo cy a0 a1 a2 a3 a4 a5 a6 (mR' mo (1 : Int32))) H := va_P_eq hP r_Mo_Mo
          have hD : va_D A (wMo cy a0 a1 a2 a3 a4 a5 a6 (mR' mo (1 : Int32))) := va_D_eq hD r_Mo_Mo
          refine lv_if_eq (tgt := 54) hx hb dX9_set_49 (by decide) (fun c => absurd c (rf_lit1 _)) (fun _ => ?_)
          refine lv_iconst (v := (0 : Int32)) hx hb dX9_set_52 (by decide) ?_
          exact mu_iret hx hb hr hlocks hP hS dX9_set_53 (by rw [m_X9_set, if_pos c_1, if_pos c_4, if_neg c_5, if_pos c_6]) (by rw [m_X9_set, if_pos c_1, if_pos c_4, if_neg c_5, if_pos c_6])
        · skip
          refine lv_iconst (v := (0 : Int32)) hx hb dX9_set_41 (by decide) ?_
          refine lv_goto (tgt := 46) hx hb dX9_set_42 (by decide) ?_
          refine muV (A0 := A) (wc := (wMo cy a0 a1 a2 a3 a4 a5 a6 mo)) (As := [.int (0 : Int32)]) (rest := []) (c_X9_refused l D cy a0 a1 a2 a3 a4 a5 a6 mo (0 : Int32)) hCF gX9_set_X9_refused rfl hd_X9_refused ⟨rfl, rfl, Nat.le_of_ble_eq_true rfl, Nat.le_of_ble_eq_true rfl⟩ hG hP hD hS hA [0, 1, 2, 3, 4, 5, 6] rfl c_Mo_Mo h_Mo (ci := 7) rfl rfl g_Mo_0 rfl hl.1 rfl (Nat.le_of_ble_eq_true rfl) dX9_set_46 ⟨Nat.le_refl _, Nat.le_refl _⟩ (fun H locs hP hD hS => ?_)
          have hP : va_P D vwCl (wMo cy a0 a1 a2 a3 a4 a5 a6 (mR' mo (0 : Int32))) H := va_P_eq hP r_Mo_Mo
          have hD : va_D A (wMo cy a0 a1 a2 a3 a4 a5 a6 (mR' mo (0 : Int32))) := va_D_eq hD r_Mo_Mo
          refine lv_if_eq (tgt := 54) hx hb dX9_set_49 (by decide) (fun _ => ?_) (fun c => absurd (rf_lit0 _) c)
          refine lv_aload_n hx hb dX9_set_54 rfl (lv_at hl 0 rfl) ?_
          refine mvV (A0 := A) (wc := (wMo cy a0 a1 a2 a3 a4 a5 a6 (mR' mo (0 : Int32)))) (As := []) (rest := []) (c_X9_remember l D cy a0 a1 a2 a3 a4 a5 a6 (mR' mo (0 : Int32)) hAc) hCF gX9_set_X9_remember rfl hd_X9_remember ⟨rfl, rfl, Nat.le_of_ble_eq_true rfl, Nat.le_of_ble_eq_true rfl⟩ hG hP hD hS hA [0, 1, 2, 3, 4, 5, 6] rfl c_Mo_Mo h_Mo (ci := 7) rfl rfl g_Mo_0 rfl hl.1 rfl (Nat.le_of_ble_eq_true rfl) dX9_set_55 ⟨Nat.le_refl _, Nat.le_refl _⟩ (fun H locs hP hD hS => ?_)
          have hP : va_P D vwCl (wMo cy a0 a1 a2 a3 a4 a5 a6 (m_X9_remember (mR' mo (0 : Int32)))) H := va_P_eq hP r_Mo_Mo
          have hD : va_D A (wMo cy a0 a1 a2 a3 a4 a5 a6 (m_X9_remember (mR' mo (0 : Int32)))) := va_D_eq hD r_Mo_Mo
          refine lv_aload_n hx hb dX9_set_58 rfl (lv_at hl 0 rfl) ?_
          refine va_get (D := D) (ci := 7) (v := .ref a2) (C := RX9) (T := TX9) (N := 11) hx hb hts in_X9 hown hG.1 hP 0 g_Mo_0 rfl 3 (by decide) k_2 (fun _ h9 => h9) rfl dX9_set_59 ?_
          refine lv_iconst (v := (2 : Int32)) hx hb dX9_set_62 (by decide) ?_
          refine lv_iload_n hx hb dX9_set_63 rfl (lv_at hl 1 rfl) ?_
          refine lv_iadd hx hb dX9_set_64 ?_
          refine va_iald hx hb hG.1 hP 2 0 (n := 383) (f := (mN (m_X9_remember (mR' mo (0 : Int32))))) g_Mo_2 rfl (iv_in (iv_add (l := 3) (h := 4) (iv_lit (v := 2) (by decide)) (iv_min (lo := 1) (hi := 2) c_5) (by decide)) (by decide) (by decide)) dX9_set_65 ?_
          refine lv_istore_n (lv' := [(3, .int ((mN (m_X9_remember (mR' mo (0 : Int32)))) ((2 : Int32) + x1).toNatClampNeg)), (0, .ref a0), (1, .int x1), (2, .int x2)]) hx hb dX9_set_66 rfl hl (by decide) rfl (fun ls hl => ?_)
          refine lv_aload_n hx hb dX9_set_67 rfl (lv_at hl 1 rfl) ?_
          refine va_get (D := D) (ci := 7) (v := .ref a2) (C := RX9) (T := TX9) (N := 11) hx hb hts in_X9 hown hG.1 hP 0 g_Mo_0 rfl 3 (by decide) k_2 (fun _ h9 => h9) rfl dX9_set_68 ?_
          refine lv_iconst (v := (2 : Int32)) hx hb dX9_set_71 (by decide) ?_
          refine lv_iload_n hx hb dX9_set_72 rfl (lv_at hl 2 rfl) ?_
          refine lv_iadd hx hb dX9_set_73 ?_
          refine lv_iload_n hx hb dX9_set_74 rfl (lv_at hl 3 rfl) ?_
          refine va_iast hx hb hG.1 hP hD hS 2 0 (n := 383) (f := (mN (m_X9_remember (mR' mo (0 : Int32))))) g_Mo_2 rfl (iv_in (iv_add (l := 3) (h := 4) (iv_lit (v := 2) (by decide)) (iv_min (lo := 1) (hi := 2) c_5) (by decide)) (by decide) (by decide)) dX9_set_75 (fun H locs hP hD hS => ?_)
          have hP : va_P D vwCl (wMo cy a0 a1 a2 a3 a4 a5 a6 (mN' (m_X9_remember (mR' mo (0 : Int32))) (upd (mN (m_X9_remember (mR' mo (0 : Int32)))) ((2 : Int32) + x1).toNatClampNeg x2))) H := va_P_eq hP s_Mo_2
          have hD : va_D A (wMo cy a0 a1 a2 a3 a4 a5 a6 (mN' (m_X9_remember (mR' mo (0 : Int32))) (upd (mN (m_X9_remember (mR' mo (0 : Int32)))) ((2 : Int32) + x1).toNatClampNeg x2))) := va_D_eq hD s_Mo_2
          refine lv_iload_n hx hb dX9_set_76 rfl (lv_at hl 0 rfl) ?_
          exact mu_iret hx hb hr hlocks hP hS dX9_set_77 (by rw [m_X9_set, if_pos c_1, if_pos c_4, if_neg c_5, if_neg c_6]) (by rw [m_X9_set, if_pos c_1, if_pos c_4, if_neg c_5, if_neg c_6])
def m_X9_undo (mo : MoT) : Int32 × MoT := if (mA mo) = (0 : Int32) then ((0 : Int32), mR' mo (1 : Int32)) else ((mA mo) - (1 : Int32), mN' (mA' (mR' mo (0 : Int32)) ((mA mo) - (1 : Int32))) (m_X9_copyState (mD mo) (mN mo) ((383 : Int32) * ((mA mo) - (1 : Int32))) (0 : Int32)))
theorem hd_X9_undo : yX9_undo.cls = RX9 ∧ yX9_undo.cls ≠ "java/lang/invoke/MethodHandle" ∧ yX9_undo.cls ≠ "java/lang/invoke/VarHandle" ∧ (parseMethodDescriptor yX9_undo.desc).map (fun d => d.parameters.length) = some 0 := by decide +kernel
set_option maxHeartbeats 8000000 in
set_option maxRecDepth 20000 in
theorem c_X9_undo (l : Launch) (D : va_G) (cy : Nat → ClassId) (a0 a1 a2 a3 a4 a5 a6 : Nat) (mo : MoT) (hAc : iv 0 14 (mA mo)) : MU l D cy yX9_undo wsX9_undo ({ frames := 1, cells := 0, slots := 0, locals := 24 } : Room) (wMo cy a0 a1 a2 a3 a4 a5 a6 mo) (wMo cy a0 a1 a2 a3 a4 a5 a6 (m_X9_undo mo).2) [.ref a0] (m_X9_undo mo).1 := by
  refine MU.body (by decide) rfl (Nat.le_of_ble_eq_true rfl) ?_
  intro p e s m below meth c hx hb hml hr hts hown hlocks hP hG ls hl A hD hA hS
  have hl : lv_has ls 1 [(0, .ref a0)] := hl
  have hCF : CallFix p m c cX9_undo 1 s ([.ref a0] : List Value).toArray wsX9_undo RX9 := ⟨hx, hb, hml, hown, hts⟩
  have in_X9 : ∀ w ∈ u_ws RX9 TX9 11, w ∈ wsX9_undo := fun _ h => List.mem_cons_of_mem _ (List.mem_append_right _ h)
  have k_0 := hts (Cond.fieldLink RX9 201 "SparePoolModel" "acts" "I") (List.mem_of_getElem? (i := 1) rfl)
  have k_1 := hts (Cond.fieldLink RX9 19 "SparePoolModel" "diary" "[I") (List.mem_of_getElem? (i := 2) rfl)
  have k_2 := hts (Cond.fieldLink RX9 13 "SparePoolModel" "now" "[I") (List.mem_of_getElem? (i := 3) rfl)
  have hP : va_P D vwCl (wMo cy a0 a1 a2 a3 a4 a5 a6 mo) s.heap := hP
  refine lv_aload_n hx hb dX9_undo_0 rfl (lv_at hl 0 rfl) ?_
  refine lv_aload_n hx hb dX9_undo_1 rfl (lv_at hl 0 rfl) ?_
  refine va_get (D := D) (ci := 7) (v := .int (mA mo)) (C := RX9) (T := TX9) (N := 11) hx hb hts in_X9 hown hG.1 hP 0 g_Mo_0 rfl 6 (by decide) k_0 (fun _ h9 => h9) rfl dX9_undo_2 ?_
  refine lv_if_ne (tgt := 12) hx hb dX9_undo_5 (by decide) (fun c_1 => ?_) (fun c_1 => ?_)
  · skip
    refine lv_iconst (v := (0 : Int32)) hx hb dX9_undo_12 (by decide) ?_
    refine muV (A0 := A) (wc := (wMo cy a0 a1 a2 a3 a4 a5 a6 mo)) (As := [.int (0 : Int32)]) (rest := []) (c_X9_refused l D cy a0 a1 a2 a3 a4 a5 a6 mo (0 : Int32)) hCF gX9_undo_X9_refused rfl hd_X9_refused ⟨rfl, rfl, Nat.le_of_ble_eq_true rfl, Nat.le_of_ble_eq_true rfl⟩ hG hP hD hS hA [0, 1, 2, 3, 4, 5, 6] rfl c_Mo_Mo h_Mo (ci := 7) rfl rfl g_Mo_0 rfl hl.1 rfl (Nat.le_of_ble_eq_true rfl) dX9_undo_13 ⟨Nat.le_refl _, Nat.le_refl _⟩ (fun H locs hP hD hS => ?_)
    have hP : va_P D vwCl (wMo cy a0 a1 a2 a3 a4 a5 a6 (mR' mo (0 : Int32))) H := va_P_eq hP r_Mo_Mo
    have hD : va_D A (wMo cy a0 a1 a2 a3 a4 a5 a6 (mR' mo (0 : Int32))) := va_D_eq hD r_Mo_Mo
    refine lv_if_eq (tgt := 21) hx hb dX9_undo_16 (by decide) (fun _ => ?_) (fun c => absurd (rf_lit0 _) c)
    refine lv_aload_n hx hb dX9_undo_21 rfl (lv_at hl 0 rfl) ?_
    refine lv_dup hx hb dX9_undo_22 rfl ?_
    refine va_get (D := D) (ci := 7) (v := .int (mA mo)) (C := RX9) (T := TX9) (N := 11) hx hb hts in_X9 hown hG.1 hP 0 g_Mo_0 rfl 6 (by decide) k_0 (fun _ h9 => h9) rfl dX9_undo_23 ?_
    refine lv_iconst (v := (1 : Int32)) hx hb dX9_undo_26 (by decide) ?_
    refine lv_isub hx hb dX9_undo_27 ?_
    refine va_put (D := D) (ci := 7) (v := .int ((mA mo) - (1 : Int32))) (ty := .int) (C := RX9) (T := TX9) (N := 11) hx hb hts in_X9 tyX9 tyX9_ok nmX9 hown hG.1 hP hD hS 0 g_Mo_0 rfl 6 (by decide) k_0 (fun _ h9 => h9) rfl (by decide +kernel) rfl rfl (Nat.le_of_ble_eq_true rfl) dX9_undo_28 (fun H locs hP hD hS => ?_)
    have hP : va_P D vwCl (wMo cy a0 a1 a2 a3 a4 a5 a6 (mA' (mR' mo (0 : Int32)) ((mA mo) - (1 : Int32)))) H := va_P_eq hP s_Mo_0_6
    have hD : va_D A (wMo cy a0 a1 a2 a3 a4 a5 a6 (mA' (mR' mo (0 : Int32)) ((mA mo) - (1 : Int32)))) := va_D_eq hD s_Mo_0_6
    refine lv_aload_n hx hb dX9_undo_31 rfl (lv_at hl 0 rfl) ?_
    refine va_get (D := D) (ci := 7) (v := .ref a4) (C := RX9) (T := TX9) (N := 11) hx hb hts in_X9 hown hG.1 hP 0 g_Mo_0 rfl 5 (by decide) k_1 (fun _ h9 => h9) rfl dX9_undo_32 ?_
    refine lv_sipush (v := (383 : Int32)) hx hb dX9_undo_35 (by decide) ?_
    refine lv_aload_n hx hb dX9_undo_38 rfl (lv_at hl 0 rfl) ?_
    refine va_get (D := D) (ci := 7) (v := .int ((mA mo) - (1 : Int32))) (C := RX9) (T := TX9) (N := 11) hx hb hts in_X9 hown hG.1 hP 0 g_Mo_0 rfl 6 (by decide) k_0 (fun _ h9 => h9) rfl dX9_undo_39 ?_
    refine lv_imul hx hb dX9_undo_42 ?_
    refine lv_aload_n hx hb dX9_undo_43 rfl (lv_at hl 0 rfl) ?_
    refine va_get (D := D) (ci := 7) (v := .ref a2) (C := RX9) (T := TX9) (N := 11) hx hb hts in_X9 hown hG.1 hP 0 g_Mo_0 rfl 3 (by decide) k_2 (fun _ h9 => h9) rfl dX9_undo_44 ?_
    refine lv_iconst (v := (0 : Int32)) hx hb dX9_undo_47 (by decide) ?_
    refine mvS (A0 := A) (wc := (wCp cy a4 a2 5362 383 (mD mo) (mN mo))) (As := [.ref a4, .int ((383 : Int32) * ((mA mo) - (1 : Int32))), .ref a2, .int (0 : Int32)]) (rest := []) (c_X9_copyState l D cy a4 a2 5362 383 (mD mo) (mN mo) ((383 : Int32) * ((mA mo) - (1 : Int32))) (0 : Int32) (cp_iv (iv_mul (l := 0) (h := 4979) (iv_lit (v := 383) (by decide)) (iv_sub (l := 0) (h := 13) (iv_ne0 hAc c_1) (iv_lit (v := 1) (by decide)) (by decide)) (by decide)) (by decide)) (cp_iv (iv_lit (v := 0) (by decide)) (by decide))) hCF gX9_undo_X9_copyState rfl hd_X9_copyState ⟨rfl, rfl, Nat.le_of_ble_eq_true rfl, Nat.le_of_ble_eq_true rfl⟩ hG hP hD hS hA [4, 2] rfl c_Mo_Cp42 h_Cp rfl hl.1 rfl (Nat.le_of_ble_eq_true rfl) dX9_undo_48 ⟨Nat.le_refl _, Nat.le_refl _⟩ (fun H locs hP hD hS => ?_)
    have hP : va_P D vwCl (wMo cy a0 a1 a2 a3 a4 a5 a6 (mN' (mA' (mR' mo (0 : Int32)) ((mA mo) - (1 : Int32))) (m_X9_copyState (mD mo) (mN mo) ((383 : Int32) * ((mA mo) - (1 : Int32))) (0 : Int32)))) H := va_P_eq hP r_Mo_Cp42
    have hD : va_D A (wMo cy a0 a1 a2 a3 a4 a5 a6 (mN' (mA' (mR' mo (0 : Int32)) ((mA mo) - (1 : Int32))) (m_X9_copyState (mD mo) (mN mo) ((383 : Int32) * ((mA mo) - (1 : Int32))) (0 : Int32)))) := va_D_eq hD r_Mo_Cp42
    refine lv_aload_n hx hb dX9_undo_51 rfl (lv_at hl 0 rfl) ?_
    refine va_get (D := D) (ci := 7) (v := .int ((mA mo) - (1 : Int32))) (C := RX9) (T := TX9) (N := 11) hx hb hts in_X9 hown hG.1 hP 0 g_Mo_0 rfl 6 (by decide) k_0 (fun _ h9 => h9) rfl dX9_undo_52 ?_
    exact mu_iret hx hb hr hlocks hP hS dX9_undo_55 (by rw [m_X9_undo, if_neg c_1]) (by rw [m_X9_undo, if_neg c_1])
  · skip
    refine lv_iconst (v := (1 : Int32)) hx hb dX9_undo_8 (by decide) ?_
    refine lv_goto (tgt := 13) hx hb dX9_undo_9 (by decide) ?_
    refine muV (A0 := A) (wc := (wMo cy a0 a1 a2 a3 a4 a5 a6 mo)) (As := [.int (1 : Int32)]) (rest := []) (c_X9_refused l D cy a0 a1 a2 a3 a4 a5 a6 mo (1 : Int32)) hCF gX9_undo_X9_refused rfl hd_X9_refused ⟨rfl, rfl, Nat.le_of_ble_eq_true rfl, Nat.le_of_ble_eq_true rfl⟩ hG hP hD hS hA [0, 1, 2, 3, 4, 5, 6] rfl c_Mo_Mo h_Mo (ci := 7) rfl rfl g_Mo_0 rfl hl.1 rfl (Nat.le_of_ble_eq_true rfl) dX9_undo_13 ⟨Nat.le_refl _, Nat.le_refl _⟩ (fun H locs hP hD hS => ?_)
    have hP : va_P D vwCl (wMo cy a0 a1 a2 a3 a4 a5 a6 (mR' mo (1 : Int32))) H := va_P_eq hP r_Mo_Mo
    have hD : va_D A (wMo cy a0 a1 a2 a3 a4 a5 a6 (mR' mo (1 : Int32))) := va_D_eq hD r_Mo_Mo
    refine lv_if_eq (tgt := 21) hx hb dX9_undo_16 (by decide) (fun c => absurd c (rf_lit1 _)) (fun _ => ?_)
    refine lv_iconst (v := (0 : Int32)) hx hb dX9_undo_19 (by decide) ?_
    exact mu_iret hx hb hr hlocks hP hS dX9_undo_20 (by rw [m_X9_undo, if_pos c_1]) (by rw [m_X9_undo, if_pos c_1])
