def m_X8_load (z : SpT) : Nat × Int32 × SpT := if (m_X6_firstError (pT z)).1 = (-1 : Int32) then (0, (m_X8_doText (pV' (pH' (pN' (pT' z (m_X6_firstError (pT z)).2) (m_X5_startAnew (pN z))) (hiForget (pH z))) (upd (upd (pV z) (0 : Int32).toNatClampNeg (0 : Int32)) (1 : Int32).toNatClampNeg (0 : Int32)))).1, (m_X8_doText (pV' (pH' (pN' (pT' z (m_X6_firstError (pT z)).2) (m_X5_startAnew (pN z))) (hiForget (pH z))) (upd (upd (pV z) (0 : Int32).toNatClampNeg (0 : Int32)) (1 : Int32).toNatClampNeg (0 : Int32)))).2) else (3, (0 : Int32), pT' z (m_X6_firstError (pT z)).2)
theorem hd_X8_load : yX8_load.cls = RX8 ∧ yX8_load.cls ≠ "java/lang/invoke/MethodHandle" ∧ yX8_load.cls ≠ "java/lang/invoke/VarHandle" ∧ (parseMethodDescriptor yX8_load.desc).map (fun d => d.parameters.length) = some 0 := by decide +kernel
set_option maxHeartbeats 8000000 in
set_option maxRecDepth 20000 in
theorem c_X8_load (l : Launch) (hl0 : l.stackTraces = false) (D : va_G) (cy : Nat → ClassId) (t : FxA) (xa sa sb tr na : Nat → Nat) (ka : Nat → Nat → Nat) (z : SpT) (hT : iv 0 120 (tL (pT z))) (hN : stOK (pN z)) : EX l D cy t yX8_load wsX8_load ({ frames := 6, cells := 1, slots := 6, locals := 142 } : Room) (wSp cy xa sa sb tr na ka z) (wSp cy xa sa sb tr na ka (m_X8_load z).2.2) [.ref (xa 0)] 1 6 (m_X8_load z).1 (m_X8_load z).2.1 := by
  refine EX.body (by decide) rfl (Nat.le_of_ble_eq_true rfl) ?_
  intro p e s m below meth c hx hb hml hnx hr hts hown hlocks hP hG ls hl A hD hA hS hF
  have hl : lv_has ls 2 [(0, .ref (xa 0))] := hl
  have hCF : CallFix p m c cX8_load 2 s ([.ref (xa 0)] : List Value).toArray wsX8_load RX8 := ⟨hx, hb, hml, hown, hts⟩
  have in_X8 : ∀ w ∈ u_ws RX8 TX8 6, w ∈ wsX8_load := fun _ h => List.mem_cons_of_mem _ (List.mem_append_left _ (List.mem_append_left _ (List.mem_append_left _ (List.mem_append_left _ (List.mem_append_left _ (List.mem_append_left _ (List.mem_append_left _ (List.mem_append_right _ h))))))))
  have k_0 := hts (Cond.fieldLink RX8 10 "SparePool" "text" "LSparePool$Text;") (List.mem_of_getElem? (i := 3) rfl)
  have k_1 := hts (Cond.initialized RX6) (List.mem_of_getElem? (i := 8) rfl)
  have k_2 := hts (Cond.instanceMethod yX6_firstError) (List.mem_of_getElem? (i := 7) rfl)
  have k_3 := hts (Cond.selects RX6 yX6_firstError yX6_firstError) (List.mem_of_getElem? (i := 9) rfl)
  have k_4 := hts (Cond.fieldLink RX8 19 "SparePool" "now" "LSparePool$State;") (List.mem_of_getElem? (i := 4) rfl)
  have k_5 := hts (Cond.initialized RX5) (List.mem_of_getElem? (i := 96) rfl)
  have k_6 := hts (Cond.instanceMethod yX5_startAnew) (List.mem_of_getElem? (i := 95) rfl)
  have k_7 := hts (Cond.selects RX5 yX5_startAnew yX5_startAnew) (List.mem_of_getElem? (i := 97) rfl)
  have k_8 := hts (Cond.fieldLink RX8 29 "SparePool" "history" "LSparePool$History;") (List.mem_of_getElem? (i := 5) rfl)
  have k_9 := hts (Cond.initialized RX2) (List.mem_of_getElem? (i := 123) rfl)
  have k_10 := hts (Cond.instanceMethod yX2_forgetAll) (List.mem_of_getElem? (i := 122) rfl)
  have k_11 := hts (Cond.selects RX2 yX2_forgetAll yX2_forgetAll) (List.mem_of_getElem? (i := 124) rfl)
  have k_12 := hts (Cond.fieldLink RX8 37 "SparePool" "saved" "[Z") (List.mem_of_getElem? (i := 6) rfl)
  have hP : va_P D vwCl (wSp cy xa sa sb tr na ka z) s.heap := hP
  refine lv_aload_n hx hb dX8_load_0 rfl (lv_at hl 0 rfl) ?_
  refine va_get (D := D) (ci := 6) (v := .ref (xa 3)) (C := RX8) (T := TX8) (N := 6) hx hb hts in_X8 hown hG.1 hP 0 g_Sp_0 rfl 0 (by decide) k_0 (fun _ h9 => h9) rfl dX8_load_1 ?_
  refine fwVN (ci := 4) (A0 := A) (As := []) (rest := []) (W1 := (wSp cy xa sa sb tr na ka z)) (W2 := (wSp cy xa sa sb tr na ka (pT' z (m_X6_firstError (pT z)).2))) ((c_X6_firstError l D cy t (xa 3) (xa 4) (pT z) hT).ctx q_T q_T) hCF gX8_load_X6_firstError_n55 (nw_X8_55 hG.2) k_1 k_2 k_3 rfl hd_X6_firstError ⟨rfl, rfl, Nat.le_of_ble_eq_true rfl, Nat.le_of_ble_eq_true rfl⟩ hG hF hP hD hS hA h_Sp rfl rfl (List.mem_of_getElem? g_Sp_3) rfl hl.1 rfl (Nat.le_of_ble_eq_true rfl) dX8_load_4 ⟨Nat.le_of_ble_eq_true rfl, Nat.le_of_ble_eq_true rfl⟩ (fun H locs hP hD hS => ?_)
  refine lv_iconst (v := (-1 : Int32)) hx hb dX8_load_7 (by decide) ?_
  refine lv_icmp_eq (tgt := 19) hx hb dX8_load_8 (by decide) (fun c_1 => ?_) (fun c_1 => ?_)
  · skip
    refine lv_aload_n hx hb dX8_load_19 rfl (lv_at hl 0 rfl) ?_
    refine va_get (D := D) (ci := 6) (v := .ref (na 0)) (C := RX8) (T := TX8) (N := 6) hx hb hts in_X8 hown hG.1 hP 0 g_Sp_0 rfl 1 (by decide) k_4 (fun _ h9 => h9) rfl dX8_load_20 ?_
    refine gwVN (ci := 3) (A0 := A) (As := []) (rest := []) (W1 := (wSp cy xa sa sb tr na ka (pT' z (m_X6_firstError (pT z)).2))) (W2 := (wSp cy xa sa sb tr na ka (pN' (pT' z (m_X6_firstError (pT z)).2) (m_X5_startAnew (pN z))))) ((c_X5_startAnew l D cy t na (pN z)).ctx q_N q_N) hCF gX8_load_X5_startAnew_n59 (nw_X8_59 hG.2) k_5 k_6 k_7 rfl hd_X5_startAnew ⟨rfl, rfl, Nat.le_of_ble_eq_true rfl, Nat.le_of_ble_eq_true rfl⟩ hG hF hP hD hS hA h_Sp rfl rfl (List.mem_of_getElem? g_Sp_50) rfl hl.1 rfl (Nat.le_of_ble_eq_true rfl) dX8_load_23 ⟨Nat.le_of_ble_eq_true rfl, Nat.le_of_ble_eq_true rfl⟩ (fun H locs hP hD hS => ?_)
    refine lv_aload_n hx hb dX8_load_26 rfl (lv_at hl 0 rfl) ?_
    refine va_get (D := D) (ci := 6) (v := .ref (xa 5)) (C := RX8) (T := TX8) (N := 6) hx hb hts in_X8 hown hG.1 hP 0 g_Sp_0 rfl 3 (by decide) k_8 (fun _ h9 => h9) rfl dX8_load_27 ?_
    refine vwVN (ci := 2) (A0 := A) (As := []) (rest := []) (W1 := (wSp cy xa sa sb tr na ka (pN' (pT' z (m_X6_firstError (pT z)).2) (m_X5_startAnew (pN z))))) (W2 := (wSp cy xa sa sb tr na ka (pH' (pN' (pT' z (m_X6_firstError (pT z)).2) (m_X5_startAnew (pN z))) (hiForget (pH z))))) ((c_X2_forgetAll l D cy (xa 5) (xa 6) ka (pH z) []).ctx q_keep q_keep) hCF gX8_load_X2_forgetAll_n62 (nw_X8_62 hG.2) k_9 k_10 k_11 rfl hd_X2_forgetAll ⟨rfl, rfl, Nat.le_of_ble_eq_true rfl, Nat.le_of_ble_eq_true rfl⟩ hG hP hD hS hA h_Sp rfl rfl (List.mem_of_getElem? g_Sp_65) rfl hl.1 rfl (Nat.le_of_ble_eq_true rfl) dX8_load_30 ⟨Nat.le_of_ble_eq_true rfl, Nat.le_of_ble_eq_true rfl⟩ (fun H locs hP hD hS => ?_)
    refine lv_iconst (v := (0 : Int32)) hx hb dX8_load_33 (by decide) ?_
    refine lv_istore_n (lv' := [(1, .int (0 : Int32)), (0, .ref (xa 0))]) hx hb dX8_load_34 rfl hl (by decide) rfl (fun ls hl => ?_)
    refine lv_iload_n hx hb dX8_load_35 rfl (lv_at hl 0 rfl) ?_
    refine lv_iconst (v := (2 : Int32)) hx hb dX8_load_36 (by decide) ?_
    refine lv_icmp_ge (tgt := 53) hx hb dX8_load_37 (by decide) (fun c => absurd c (by decide)) (fun _ => ?_)
    refine lv_aload_n hx hb dX8_load_40 rfl (lv_at hl 1 rfl) ?_
    refine va_get (D := D) (ci := 6) (v := .ref (xa 2)) (C := RX8) (T := TX8) (N := 6) hx hb hts in_X8 hown hG.1 hP 0 g_Sp_0 rfl 5 (by decide) k_12 (fun _ h9 => h9) rfl dX8_load_41 ?_
    refine lv_iload_n hx hb dX8_load_44 rfl (lv_at hl 0 rfl) ?_
    refine lv_iconst (v := (0 : Int32)) hx hb dX8_load_45 (by decide) ?_
    refine va_zast hx hb hG.1 hP hD hS 2 1 (n := 2) (f := (pV z)) g_Sp_2 rfl (bd_of (by decide) (by decide)) dX8_load_46 (fun H locs hP hD hS => ?_)
    have hP : va_P D vwCl (wSp cy xa sa sb tr na ka (pV' (pH' (pN' (pT' z (m_X6_firstError (pT z)).2) (m_X5_startAnew (pN z))) (hiForget (pH z))) (upd (pV z) (0 : Int32).toNatClampNeg (0 : Int32)))) H := va_P_eq hP s_Sp_2
    have hD : va_D A (wSp cy xa sa sb tr na ka (pV' (pH' (pN' (pT' z (m_X6_firstError (pT z)).2) (m_X5_startAnew (pN z))) (hiForget (pH z))) (upd (pV z) (0 : Int32).toNatClampNeg (0 : Int32)))) := va_D_eq hD s_Sp_2
    refine lv_iinc (v := (1 : Int32)) (lv' := [(1, .int (1 : Int32)), (0, .ref (xa 0))]) hx hb dX8_load_47 hl (k := 0) rfl rfl (by decide) rfl (fun ls hl => ?_)
    refine lv_goto (tgt := 35) hx hb dX8_load_50 (by decide) ?_
    refine lv_iload_n hx hb dX8_load_35 rfl (lv_at hl 0 rfl) ?_
    refine lv_iconst (v := (2 : Int32)) hx hb dX8_load_36 (by decide) ?_
    refine lv_icmp_ge (tgt := 53) hx hb dX8_load_37 (by decide) (fun c => absurd c (by decide)) (fun _ => ?_)
    refine lv_aload_n hx hb dX8_load_40 rfl (lv_at hl 1 rfl) ?_
    refine va_get (D := D) (ci := 6) (v := .ref (xa 2)) (C := RX8) (T := TX8) (N := 6) hx hb hts in_X8 hown hG.1 hP 0 g_Sp_0 rfl 5 (by decide) k_12 (fun _ h9 => h9) rfl dX8_load_41 ?_
    refine lv_iload_n hx hb dX8_load_44 rfl (lv_at hl 0 rfl) ?_
    refine lv_iconst (v := (0 : Int32)) hx hb dX8_load_45 (by decide) ?_
    refine va_zast hx hb hG.1 hP hD hS 2 1 (n := 2) (f := (upd (pV z) (0 : Int32).toNatClampNeg (0 : Int32))) g_Sp_2 rfl (bd_of (by decide) (by decide)) dX8_load_46 (fun H locs hP hD hS => ?_)
    have hP : va_P D vwCl (wSp cy xa sa sb tr na ka (pV' (pH' (pN' (pT' z (m_X6_firstError (pT z)).2) (m_X5_startAnew (pN z))) (hiForget (pH z))) (upd (upd (pV z) (0 : Int32).toNatClampNeg (0 : Int32)) (1 : Int32).toNatClampNeg (0 : Int32)))) H := va_P_eq hP s_Sp_2
    have hD : va_D A (wSp cy xa sa sb tr na ka (pV' (pH' (pN' (pT' z (m_X6_firstError (pT z)).2) (m_X5_startAnew (pN z))) (hiForget (pH z))) (upd (upd (pV z) (0 : Int32).toNatClampNeg (0 : Int32)) (1 : Int32).toNatClampNeg (0 : Int32)))) := va_D_eq hD s_Sp_2
    refine lv_iinc (v := (2 : Int32)) (lv' := [(1, .int (2 : Int32)), (0, .ref (xa 0))]) hx hb dX8_load_47 hl (k := 0) rfl rfl (by decide) rfl (fun ls hl => ?_)
    refine lv_goto (tgt := 35) hx hb dX8_load_50 (by decide) ?_
    refine lv_iload_n hx hb dX8_load_35 rfl (lv_at hl 0 rfl) ?_
    refine lv_iconst (v := (2 : Int32)) hx hb dX8_load_36 (by decide) ?_
    refine lv_icmp_ge (tgt := 53) hx hb dX8_load_37 (by decide) (fun _ => ?_) (fun c => absurd (by decide) c)
    refine lv_aload_n hx hb dX8_load_53 rfl (lv_at hl 1 rfl) ?_
    refine fwV (ci := 6) (A0 := A) (As := []) (rest := []) (W1 := (wSp cy xa sa sb tr na ka (pV' (pH' (pN' (pT' z (m_X6_firstError (pT z)).2) (m_X5_startAnew (pN z))) (hiForget (pH z))) (upd (upd (pV z) (0 : Int32).toNatClampNeg (0 : Int32)) (1 : Int32).toNatClampNeg (0 : Int32))))) (W2 := (wSp cy xa sa sb tr na ka (m_X8_doText (pV' (pH' (pN' (pT' z (m_X6_firstError (pT z)).2) (m_X5_startAnew (pN z))) (hiForget (pH z))) (upd (upd (pV z) (0 : Int32).toNatClampNeg (0 : Int32)) (1 : Int32).toNatClampNeg (0 : Int32)))).2)) (c_X8_doText l D cy t xa sa sb tr na ka (pV' (pH' (pN' (pT' z (m_X6_firstError (pT z)).2) (m_X5_startAnew (pN z))) (hiForget (pH z))) (upd (upd (pV z) (0 : Int32).toNatClampNeg (0 : Int32)) (1 : Int32).toNatClampNeg (0 : Int32))) (fe_T hT) (ok_anew _)) hCF gX8_load_X8_doText rfl hd_X8_doText ⟨rfl, rfl, Nat.le_of_ble_eq_true rfl, Nat.le_of_ble_eq_true rfl⟩ hG hF hP hD hS hA h_Sp rfl rfl (List.mem_of_getElem? g_Sp_0) rfl hl.1 rfl (Nat.le_of_ble_eq_true rfl) dX8_load_54 ⟨Nat.le_of_ble_eq_true rfl, Nat.le_of_ble_eq_true rfl⟩ (fun H locs hP hD hS => ?_)
    exact ex_iret hx hb hr hlocks hP hS (Nat.le_of_ble_eq_true rfl) (Nat.le_of_ble_eq_true rfl) dX8_load_57 (by rw [m_X8_load, if_pos c_1]) (by rw [m_X8_load, if_pos c_1]) (by rw [m_X8_load, if_pos c_1])
  · skip
    exact ex_thr (i := 3) (ik := 48) (ic := 50) hx hb hl0 hown (hts (Cond.classLink RX8 48 "java/lang/IllegalStateException") (List.mem_of_getElem? (i := 1) rfl)) (hts (Cond.initialized "java/lang/IllegalStateException") (List.mem_of_getElem? (i := 2) rfl)) (by decide) (fun w h => hts w (List.mem_cons_of_mem _ (List.mem_append_right _ h))) (by decide +kernel) (by decide +kernel) hF hS hP (hl.1.trans hml.symm) dX8_load_11 dX8_load_14 dX8_load_15 dX8_load_18 hnx (Nat.le_of_ble_eq_true rfl) (Nat.le_of_ble_eq_true rfl) (Nat.le_of_ble_eq_true rfl) (Nat.le_of_ble_eq_true rfl) hlocks (Nat.le_of_ble_eq_true rfl) (Nat.le_of_ble_eq_true rfl) (by rw [m_X8_load, if_neg c_1]) (by decide) (by rw [m_X8_load, if_neg c_1])
def m_X8_inDebt_L4 : Nat → SpT → Int32 → Int32 → Int32 × SpT
  | 0, z, _, _ => (0, z)
  | nF + 1, z, bi, hh => if (5 : Int32) ≤ hh then (bi, z) else if (0 : Int32) ≤ (m_X5_accountWhenAllIsSettled (pN z) hh) then m_X8_inDebt_L4 nF z bi (hh + (1 : Int32)) else m_X8_inDebt_L4 nF z (bi ||| ((1 : Int32) <<< (hh &&& (31 : Int32)))) (hh + (1 : Int32))
def m_X8_inDebt (z : SpT) : Int32 × SpT := m_X8_inDebt_L4 100 z (0 : Int32) (0 : Int32)
theorem hd_X8_inDebt : yX8_inDebt.cls = RX8 ∧ yX8_inDebt.cls ≠ "java/lang/invoke/MethodHandle" ∧ yX8_inDebt.cls ≠ "java/lang/invoke/VarHandle" ∧ (parseMethodDescriptor yX8_inDebt.desc).map (fun d => d.parameters.length) = some 0 := by decide +kernel
set_option maxHeartbeats 8000000 in
set_option maxRecDepth 20000 in
theorem c_X8_inDebt (l : Launch) (D : va_G) (cy : Nat → ClassId) (xa sa sb tr na : Nat → Nat) (ka : Nat → Nat → Nat) (z : SpT) (hN : stOK (pN z)) : MU l D cy yX8_inDebt wsX8_inDebt ({ frames := 5, cells := 0, slots := 0, locals := 112 } : Room) (wSp cy xa sa sb tr na ka z) (wSp cy xa sa sb tr na ka (m_X8_inDebt z).2) [.ref (xa 0)] (m_X8_inDebt z).1 := by
  refine MU.body (by decide) rfl (Nat.le_of_ble_eq_true rfl) ?_
  intro p e s m below meth c hx hb hml hr hts hown hlocks hP hG ls hl A hD hA hS
  have hl : lv_has ls 3 [(0, .ref (xa 0))] := hl
  have hCF : CallFix p m c cX8_inDebt 3 s ([.ref (xa 0)] : List Value).toArray wsX8_inDebt RX8 := ⟨hx, hb, hml, hown, hts⟩
  have in_X8 : ∀ w ∈ u_ws RX8 TX8 6, w ∈ wsX8_inDebt := fun _ h => List.mem_cons_of_mem _ (List.mem_append_left _ (List.mem_append_left _ (List.mem_append_left _ (List.mem_append_right _ h))))
  have k_0 := hts (Cond.fieldLink RX8 19 "SparePool" "now" "LSparePool$State;") (List.mem_of_getElem? (i := 1) rfl)
  have k_1 := hts (Cond.initialized RX5) (List.mem_of_getElem? (i := 3) rfl)
  have k_2 := hts (Cond.instanceMethod yX5_accountWhenAllIsSettled) (List.mem_of_getElem? (i := 2) rfl)
  have k_3 := hts (Cond.selects RX5 yX5_accountWhenAllIsSettled yX5_accountWhenAllIsSettled) (List.mem_of_getElem? (i := 4) rfl)
  have hP : va_P D vwCl (wSp cy xa sa sb tr na ka z) s.heap := hP
  have L_4 : ∀ (nF : Nat) (bi : Int32) (hh : Int32), 0 ≤ hh.toInt → ((5 : Int32).toInt - hh.toInt).toNat < nF → m_X8_inDebt_L4 nF z bi hh = (m_X8_inDebt z) → ∀ (H : Heap) (locs : List Loc), va_P D vwCl (wSp cy xa sa sb tr na ka z) H → va_D A (wSp cy xa sa sb tr na ka z) → va_S A s.heap H locs → ∀ ls : Array Slot, lv_has ls 3 [(0, .ref (xa 0)), (1, .int bi), (2, .int hh)] → W p l e ({ frames := 5, cells := 0, slots := 0, locals := 112 } : Room) s m ([.ref (xa 0)] : List Value).toArray below meth c H locs 0 0 (MQ below (va_Qi (fun v_ (_ : Unit) => v_ = (m_X8_inDebt z).1) (fun _ t => va_P D vwCl (wSp cy xa sa sb tr na ka (m_X8_inDebt z).2) t.heap) A) ([.ref (xa 0)] : List Value).toArray s 0 0 A) (F0 m 4 ls []) := by
    intro nF
    induction nF with
    | zero => intro bi hh h0 hm; exact absurd hm (Nat.not_lt_zero _)
    | succ nF ih =>
      intro bi hh h0 hm hQ H locs hP hD hS ls hl
      refine lv_iload_n hx hb dX8_inDebt_4 rfl (lv_at hl 2 rfl) ?_
      refine lv_iconst (v := (5 : Int32)) hx hb dX8_inDebt_5 (by decide) ?_
      refine lv_icmp_ge (tgt := 32) hx hb dX8_inDebt_6 (by decide) (fun c_1 => ?_) (fun c_1 => ?_)
      · skip
        refine lv_iload_n hx hb dX8_inDebt_32 rfl (lv_at hl 1 rfl) ?_
        exact mu_iret hx hb hr hlocks hP hS dX8_inDebt_33 (by rw [← hQ, m_X8_inDebt_L4, if_pos c_1]) (by rw [← hQ, m_X8_inDebt_L4, if_pos c_1])
      · skip
        refine lv_aload_n hx hb dX8_inDebt_9 rfl (lv_at hl 0 rfl) ?_
        refine va_get (D := D) (ci := 6) (v := .ref (na 0)) (C := RX8) (T := TX8) (N := 6) hx hb hts in_X8 hown hG.1 hP 0 g_Sp_0 rfl 1 (by decide) k_0 (fun _ h9 => h9) rfl dX8_inDebt_10 ?_
        refine lv_iload_n hx hb dX8_inDebt_13 rfl (lv_at hl 2 rfl) ?_
        refine roVN (wc := (wSt cy na (pN z))) (As := [.int hh]) (rest := []) (c_X5_accountWhenAllIsSettled l D cy na (pN z) hh hN) hCF gX8_inDebt_X5_accountWhenAllIsSettled_n267 (nw_X8_267 hG.2) k_1 k_2 k_3 rfl hd_X5_accountWhenAllIsSettled ⟨rfl, rfl, Nat.le_of_ble_eq_true rfl, Nat.le_of_ble_eq_true rfl⟩ hG (hP.sub (ws' := (wSt cy na (pN z))) [50, 51, 52, 53, 54, 55, 56, 57, 58, 59, 60, 61, 62, 63, 64] u_Sp_St50) (ci := 3) rfl rfl g_St_0 rfl hl.1 rfl (Nat.le_of_ble_eq_true rfl) dX8_inDebt_14 ⟨Nat.le_of_ble_eq_true rfl, Nat.le_of_ble_eq_true rfl⟩ ?_
        refine lv_if_ge (tgt := 26) hx hb dX8_inDebt_17 (by decide) (fun c_2 => ?_) (fun c_2 => ?_)
        · skip
          refine lv_iinc (v := (hh + (1 : Int32))) (lv' := [(2, .int (hh + (1 : Int32))), (0, .ref (xa 0)), (1, .int bi)]) hx hb dX8_inDebt_26 hl (k := 2) rfl rfl (by decide) rfl (fun ls hl => ?_)
          refine lv_goto (tgt := 4) hx hb dX8_inDebt_29 (by decide) ?_
          exact ih  bi (hh + (1 : Int32)) (lp_up h0 c_1) (lp_dec h0 c_1 hm) (by rw [← hQ, m_X8_inDebt_L4, if_neg c_1, if_pos c_2]) H locs hP hD hS ls (lv_sub hl [1, 2, 0] rfl)
        · skip
          refine lv_iload_n hx hb dX8_inDebt_20 rfl (lv_at hl 1 rfl) ?_
          refine lv_iconst (v := (1 : Int32)) hx hb dX8_inDebt_21 (by decide) ?_
          refine lv_iload_n hx hb dX8_inDebt_22 rfl (lv_at hl 2 rfl) ?_
          refine lv_ishl hx hb dX8_inDebt_23 ?_
          refine lv_ior hx hb dX8_inDebt_24 ?_
          refine lv_istore_n (lv' := [(1, .int (bi ||| ((1 : Int32) <<< (hh &&& (31 : Int32))))), (0, .ref (xa 0)), (2, .int hh)]) hx hb dX8_inDebt_25 rfl hl (by decide) rfl (fun ls hl => ?_)
          refine lv_iinc (v := (hh + (1 : Int32))) (lv' := [(2, .int (hh + (1 : Int32))), (1, .int (bi ||| ((1 : Int32) <<< (hh &&& (31 : Int32))))), (0, .ref (xa 0))]) hx hb dX8_inDebt_26 hl (k := 2) rfl rfl (by decide) rfl (fun ls hl => ?_)
          refine lv_goto (tgt := 4) hx hb dX8_inDebt_29 (by decide) ?_
          exact ih  (bi ||| ((1 : Int32) <<< (hh &&& (31 : Int32)))) (hh + (1 : Int32)) (lp_up h0 c_1) (lp_dec h0 c_1 hm) (by rw [← hQ, m_X8_inDebt_L4, if_neg c_1, if_neg c_2]) H locs hP hD hS ls (lv_sub hl [2, 1, 0] rfl)
  refine lv_iconst (v := (0 : Int32)) hx hb dX8_inDebt_0 (by decide) ?_
  refine lv_istore_n (lv' := [(1, .int (0 : Int32)), (0, .ref (xa 0))]) hx hb dX8_inDebt_1 rfl hl (by decide) rfl (fun ls hl => ?_)
  refine lv_iconst (v := (0 : Int32)) hx hb dX8_inDebt_2 (by decide) ?_
  refine lv_istore_n (lv' := [(2, .int (0 : Int32)), (1, .int (0 : Int32)), (0, .ref (xa 0))]) hx hb dX8_inDebt_3 rfl hl (by decide) rfl (fun ls hl => ?_)
  exact L_4 100 (0 : Int32) (0 : Int32) (by decide) (lp_init (M := 5) (by decide) (by decide)) (by rw [m_X8_inDebt]) s.heap [] hP hD hS ls (lv_sub hl [2, 1, 0] rfl)
