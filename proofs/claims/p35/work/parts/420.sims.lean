theorem rs_init {x : Int32} (c : ¬ (3 : Int32) < x) : (x.toInt - (0 : Int32).toInt).toNat < 100 := by
  rw [i32_lt] at c
  have : (3 : Int32).toInt = 3 := by decide
  rw [i32_0]; omega
theorem sm_init {x : Int32} (c : x ≤ (99 : Int32)) : (x.toInt - (0 : Int32).toInt).toNat < 1000 := by
  rw [i32_le] at c
  have : (99 : Int32).toInt = 99 := by decide
  rw [i32_0]; omega
def m_X8_runScript_L47 : Nat → SpT → Int32 → Int64 → Int32 → Nat × Int32 × SpT
  | 0, r, _, _, _ => (0, 0, r)
  | nF + 1, r, x1, x2, ii => if x1 ≤ ii then (0, (-1 : Int32), r) else if (m_X3_succeeds (pR r) (m_X3_group x2 ((x1 - (1 : Int32)) - ii))).1 = (0 : Int32) then (0, ii, pR' r (m_X3_succeeds (pR r) (m_X3_group x2 ((x1 - (1 : Int32)) - ii))).2) else m_X8_runScript_L47 nF (pR' r (m_X3_succeeds (pR r) (m_X3_group x2 ((x1 - (1 : Int32)) - ii))).2) x1 x2 (ii + (1 : Int32))
def m_X8_runScript (z : SpT) (x1 : Int32) (x2 : Int64) : Nat × Int32 × SpT := if x1 < (1 : Int32) then (2, (0 : Int32), z) else if (3 : Int32) < x1 then (2, (0 : Int32), z) else if (lg_cmp x2 (0 : Int64)) < (0 : Int32) then (2, (0 : Int32), z) else if (lg_cmp x2 (m_X3_limit x1)) < (0 : Int32) then m_X8_runScript_L47 100 (pR' z (pN z)) x1 x2 (0 : Int32) else (2, (0 : Int32), z)
theorem hd_X8_runScript : yX8_runScript.cls = RX8 ∧ yX8_runScript.cls ≠ "java/lang/invoke/MethodHandle" ∧ yX8_runScript.cls ≠ "java/lang/invoke/VarHandle" ∧ (parseMethodDescriptor yX8_runScript.desc).map (fun d => d.parameters.length) = some 2 := by decide +kernel
set_option maxHeartbeats 8000000 in
set_option maxRecDepth 20000 in
theorem c_X8_runScript (l : Launch) (hl0 : l.stackTraces = false) (D : va_G) (cy : Nat → ClassId) (t : FxA) (xa sa sb tr na : Nat → Nat) (ka : Nat → Nat → Nat) (z : SpT) (x1 : Int32) (x2 : Int64) (hN : stOK (pN z)) : EX l D cy t yX8_runScript wsX8_runScript ({ frames := 6, cells := 1, slots := 6, locals := 123 } : Room) (wSp cy xa sa sb tr na ka z) (wSp cy xa sa sb tr na ka (m_X8_runScript z x1 x2).2.2) [.ref (xa 0), .int x1, .long x2] 1 6 (m_X8_runScript z x1 x2).1 (m_X8_runScript z x1 x2).2.1 := by
  refine EX.body (by decide) rfl (Nat.le_of_ble_eq_true rfl) ?_
  intro p e s m below meth c hx hb hml hnx hr hts hown hlocks hP hG ls hl A hD hA hS hF
  have hl : lv_has ls 5 [(0, .ref (xa 0)), (1, .int x1), (2, .long x2)] := hl
  have hCF : CallFix p m c cX8_runScript 5 s ([.ref (xa 0), .int x1, .long x2] : List Value).toArray wsX8_runScript RX8 := ⟨hx, hb, hml, hown, hts⟩
  have in_X8 : ∀ w ∈ u_ws RX8 TX8 6, w ∈ wsX8_runScript := fun _ h => List.mem_cons_of_mem _ (List.mem_append_left _ (List.mem_append_left _ (List.mem_append_left _ (List.mem_append_left _ (List.mem_append_left _ (List.mem_append_right _ h))))))
  have k_0 := hts (Cond.fieldLink RX8 23 "SparePool" "trial" "LSparePool$State;") (List.mem_of_getElem? (i := 3) rfl)
  have k_1 := hts (Cond.initialized RX3) (List.mem_of_getElem? (i := 6) rfl)
  have k_2 := hts (Cond.static yX3_group) (List.mem_of_getElem? (i := 51) rfl)
  have k_3 := hts (Cond.static yX3_succeeds) (List.mem_of_getElem? (i := 53) rfl)
  have k_4 := hts (Cond.static yX3_limit) (List.mem_of_getElem? (i := 5) rfl)
  have k_5 := hts (Cond.fieldLink RX8 19 "SparePool" "now" "LSparePool$State;") (List.mem_of_getElem? (i := 4) rfl)
  have k_6 := hts (Cond.initialized RX5) (List.mem_of_getElem? (i := 10) rfl)
  have k_7 := hts (Cond.instanceMethod yX5_copyFrom) (List.mem_of_getElem? (i := 9) rfl)
  have k_8 := hts (Cond.selects RX5 yX5_copyFrom yX5_copyFrom) (List.mem_of_getElem? (i := 11) rfl)
  have hP : va_P D vwCl (wSp cy xa sa sb tr na ka z) s.heap := hP
  have L_47 : ∀ (nF : Nat) (r : SpT) (ii : Int32), 0 ≤ ii.toInt → stOK (pR r) → (x1.toInt - ii.toInt).toNat < nF → m_X8_runScript_L47 nF r x1 x2 ii = (m_X8_runScript z x1 x2) → ∀ (H : Heap) (locs : List Loc), va_P D vwCl (wSp cy xa sa sb tr na ka r) H → va_D A (wSp cy xa sa sb tr na ka r) → va_S A s.heap H locs → ∀ ls : Array Slot, lv_has ls 5 [(0, .ref (xa 0)), (1, .int x1), (2, .long x2), (4, .int ii)] → @Wx p l e ({ frames := 6, cells := 1, slots := 6, locals := 123 } : Room) s m ([.ref (xa 0), .int x1, .long x2] : List Value).toArray below meth c H locs 0 0 (vx_MQ below (va_Qi (fun v_ (_ : Unit) => (m_X8_runScript z x1 x2).1 = 0 ∧ v_ = (m_X8_runScript z x1 x2).2.1) (fun _ u => va_P D vwCl (wSp cy xa sa sb tr na ka (m_X8_runScript z x1 x2).2.2) u.heap) A) (vx_X (fun (_ : Unit) => True) (fun E _ u => 0 < (m_X8_runScript z x1 x2).1 ∧ E = exN (m_X8_runScript z x1 x2).1 ∧ va_P D vwCl (wSp cy xa sa sb tr na ka (m_X8_runScript z x1 x2).2.2) u.heap) A) ([.ref (xa 0), .int x1, .long x2] : List Value).toArray s 1 6 A) (F0 m 47 ls []) := by
    intro nF
    induction nF with
    | zero => intro r ii h0 hR hm; exact absurd hm (Nat.not_lt_zero _)
    | succ nF ih =>
      intro r ii h0 hR hm hQ H locs hP hD hS ls hl
      refine lv_iload hx hb dX8_runScript_47 (lv_at hl 3 rfl) ?_
      refine lv_iload_n hx hb dX8_runScript_49 rfl (lv_at hl 1 rfl) ?_
      refine lv_icmp_ge (tgt := 82) hx hb dX8_runScript_50 (by decide) (fun c_1 => ?_) (fun c_1 => ?_)
      · skip
        refine lv_iconst (v := (-1 : Int32)) hx hb dX8_runScript_82 (by decide) ?_
        exact ex_iret hx hb hr hlocks hP hS (Nat.le_of_ble_eq_true rfl) (Nat.le_of_ble_eq_true rfl) dX8_runScript_83 (by rw [← hQ, m_X8_runScript_L47, if_pos c_1]) (by rw [← hQ, m_X8_runScript_L47, if_pos c_1]) (by rw [← hQ, m_X8_runScript_L47, if_pos c_1])
      · skip
        refine lv_aload_n hx hb dX8_runScript_53 rfl (lv_at hl 0 rfl) ?_
        refine va_get (D := D) (ci := 6) (v := .ref (tr 0)) (C := RX8) (T := TX8) (N := 6) hx hb hts in_X8 hown hG.1 hP 0 g_Sp_0 rfl 2 (by decide) k_0 (fun _ h9 => h9) rfl dX8_runScript_54 ?_
        refine lv_lload_n hx hb dX8_runScript_57 rfl (lv_at hl 2 rfl) ?_
        refine lv_iload_n hx hb dX8_runScript_58 rfl (lv_at hl 1 rfl) ?_
        refine lv_iconst (v := (1 : Int32)) hx hb dX8_runScript_59 (by decide) ?_
        refine lv_isub hx hb dX8_runScript_60 ?_
        refine lv_iload hx hb dX8_runScript_61 (lv_at hl 3 rfl) ?_
        refine lv_isub hx hb dX8_runScript_63 ?_
        refine roSN (wc := ([] : va_W)) (As := [.long x2, .int ((x1 - (1 : Int32)) - ii)]) (rest := [.ref (tr 0)]) (c_X3_group l D cy x2 ((x1 - (1 : Int32)) - ii)) hCF gX8_runScript_X3_group_n279 (nw_X8_279 hG.2) k_1 k_2 rfl hd_X3_group.2 ⟨rfl, rfl, Nat.le_of_ble_eq_true rfl, Nat.le_of_ble_eq_true rfl⟩ hG va_P_nil rfl hl.1 rfl (Nat.le_of_ble_eq_true rfl) dX8_runScript_64 ⟨Nat.le_of_ble_eq_true rfl, Nat.le_of_ble_eq_true rfl⟩ ?_
        refine mwSN (A0 := A) (As := [.ref (tr 0), .int (m_X3_group x2 ((x1 - (1 : Int32)) - ii))]) (rest := []) (W1 := (wSp cy xa sa sb tr na ka r)) (W2 := (wSp cy xa sa sb tr na ka (pR' r (m_X3_succeeds (pR r) (m_X3_group x2 ((x1 - (1 : Int32)) - ii))).2))) ((c_X3_succeeds l D cy tr (pR r) (m_X3_group x2 ((x1 - (1 : Int32)) - ii)) hR).ctx q_R q_R) hCF gX8_runScript_X3_succeeds_n283 (nw_X8_283 hG.2) k_1 k_3 rfl hd_X3_succeeds.2 ⟨rfl, rfl, Nat.le_of_ble_eq_true rfl, Nat.le_of_ble_eq_true rfl⟩ hG hP hD hS hA h_Sp rfl hl.1 rfl (Nat.le_of_ble_eq_true rfl) dX8_runScript_67 ⟨Nat.le_of_ble_eq_true rfl, Nat.le_of_ble_eq_true rfl⟩ (fun H locs hP hD hS => ?_)
        refine lv_if_ne (tgt := 76) hx hb dX8_runScript_70 (by decide) (fun c_2 => ?_) (fun c_2 => ?_)
        · skip
          refine lv_iinc (v := (ii + (1 : Int32))) (lv' := [(4, .int (ii + (1 : Int32))), (0, .ref (xa 0)), (1, .int x1), (2, .long x2)]) hx hb dX8_runScript_76 hl (k := 3) rfl rfl (by decide) rfl (fun ls hl => ?_)
          refine lv_goto (tgt := 47) hx hb dX8_runScript_79 (by decide) ?_
          exact ih  (pR' r (m_X3_succeeds (pR r) (m_X3_group x2 ((x1 - (1 : Int32)) - ii))).2) (ii + (1 : Int32)) (lp_up h0 c_1) (ok_succ hR) (lp_dec h0 c_1 hm) (by rw [← hQ, m_X8_runScript_L47, if_neg c_1, if_neg c_2]) H locs hP hD hS ls (lv_sub hl [1, 2, 3, 0] rfl)
        · skip
          refine lv_iload hx hb dX8_runScript_73 (lv_at hl 3 rfl) ?_
          exact ex_iret hx hb hr hlocks hP hS (Nat.le_of_ble_eq_true rfl) (Nat.le_of_ble_eq_true rfl) dX8_runScript_75 (by rw [← hQ, m_X8_runScript_L47, if_neg c_1, if_pos c_2]) (by rw [← hQ, m_X8_runScript_L47, if_neg c_1, if_pos c_2]) (by rw [← hQ, m_X8_runScript_L47, if_neg c_1, if_pos c_2])
  refine lv_iload_n hx hb dX8_runScript_0 rfl (lv_at hl 1 rfl) ?_
  refine lv_iconst (v := (1 : Int32)) hx hb dX8_runScript_1 (by decide) ?_
  refine lv_icmp_lt (tgt := 25) hx hb dX8_runScript_2 (by decide) (fun c_3 => ?_) (fun c_3 => ?_)
  · skip
    exact ex_thr (i := 2) (ik := 41) (ic := 43) hx hb hl0 hown (hts (Cond.classLink RX8 41 "java/lang/IllegalArgumentException") (List.mem_of_getElem? (i := 1) rfl)) (hts (Cond.initialized "java/lang/IllegalArgumentException") (List.mem_of_getElem? (i := 2) rfl)) (by decide) (fun w h => hts w (List.mem_cons_of_mem _ (List.mem_append_right _ h))) (by decide +kernel) (by decide +kernel) hF hS hP (hl.1.trans hml.symm) dX8_runScript_25 dX8_runScript_28 dX8_runScript_29 dX8_runScript_32 hnx (Nat.le_of_ble_eq_true rfl) (Nat.le_of_ble_eq_true rfl) (Nat.le_of_ble_eq_true rfl) (Nat.le_of_ble_eq_true rfl) hlocks (Nat.le_of_ble_eq_true rfl) (Nat.le_of_ble_eq_true rfl) (by rw [m_X8_runScript, if_pos c_3]) (by decide) (by rw [m_X8_runScript, if_pos c_3])
  · skip
    refine lv_iload_n hx hb dX8_runScript_5 rfl (lv_at hl 1 rfl) ?_
    refine lv_iconst (v := (3 : Int32)) hx hb dX8_runScript_6 (by decide) ?_
    refine lv_icmp_gt (tgt := 25) hx hb dX8_runScript_7 (by decide) (fun c_4 => ?_) (fun c_4 => ?_)
    · skip
      exact ex_thr (i := 2) (ik := 41) (ic := 43) hx hb hl0 hown (hts (Cond.classLink RX8 41 "java/lang/IllegalArgumentException") (List.mem_of_getElem? (i := 1) rfl)) (hts (Cond.initialized "java/lang/IllegalArgumentException") (List.mem_of_getElem? (i := 2) rfl)) (by decide) (fun w h => hts w (List.mem_cons_of_mem _ (List.mem_append_right _ h))) (by decide +kernel) (by decide +kernel) hF hS hP (hl.1.trans hml.symm) dX8_runScript_25 dX8_runScript_28 dX8_runScript_29 dX8_runScript_32 hnx (Nat.le_of_ble_eq_true rfl) (Nat.le_of_ble_eq_true rfl) (Nat.le_of_ble_eq_true rfl) (Nat.le_of_ble_eq_true rfl) hlocks (Nat.le_of_ble_eq_true rfl) (Nat.le_of_ble_eq_true rfl) (by rw [m_X8_runScript, if_neg c_3, if_pos c_4]) (by decide) (by rw [m_X8_runScript, if_neg c_3, if_pos c_4])
    · skip
      refine lv_lload_n hx hb dX8_runScript_10 rfl (lv_at hl 2 rfl) ?_
      refine lv_lconst (v := (0 : Int64)) hx hb dX8_runScript_11 (by decide) ?_
      refine W.lcmp hx hb dX8_runScript_12 ?_
      refine lv_if_lt (tgt := 25) hx hb dX8_runScript_13 (by decide) (fun c_5 => ?_) (fun c_5 => ?_)
      · skip
        exact ex_thr (i := 2) (ik := 41) (ic := 43) hx hb hl0 hown (hts (Cond.classLink RX8 41 "java/lang/IllegalArgumentException") (List.mem_of_getElem? (i := 1) rfl)) (hts (Cond.initialized "java/lang/IllegalArgumentException") (List.mem_of_getElem? (i := 2) rfl)) (by decide) (fun w h => hts w (List.mem_cons_of_mem _ (List.mem_append_right _ h))) (by decide +kernel) (by decide +kernel) hF hS hP (hl.1.trans hml.symm) dX8_runScript_25 dX8_runScript_28 dX8_runScript_29 dX8_runScript_32 hnx (Nat.le_of_ble_eq_true rfl) (Nat.le_of_ble_eq_true rfl) (Nat.le_of_ble_eq_true rfl) (Nat.le_of_ble_eq_true rfl) hlocks (Nat.le_of_ble_eq_true rfl) (Nat.le_of_ble_eq_true rfl) (by rw [m_X8_runScript, if_neg c_3, if_neg c_4, if_pos c_5]) (by decide) (by rw [m_X8_runScript, if_neg c_3, if_neg c_4, if_pos c_5])
      · skip
        refine lv_lload_n hx hb dX8_runScript_16 rfl (lv_at hl 2 rfl) ?_
        refine lv_iload_n hx hb dX8_runScript_17 rfl (lv_at hl 1 rfl) ?_
        refine rlSN (wc := ([] : va_W)) (As := [.int x1]) (rest := [.long x2]) (c_X3_limit l D cy x1) hCF gX8_runScript_X3_limit_n270 (nw_X8_270 hG.2) k_1 k_4 rfl hd_X3_limit.2 ⟨rfl, rfl, Nat.le_of_ble_eq_true rfl, Nat.le_of_ble_eq_true rfl⟩ hG va_P_nil rfl hl.1 rfl (Nat.le_of_ble_eq_true rfl) dX8_runScript_18 ⟨Nat.le_of_ble_eq_true rfl, Nat.le_of_ble_eq_true rfl⟩ ?_
        refine W.lcmp hx hb dX8_runScript_21 ?_
        refine lv_if_lt (tgt := 33) hx hb dX8_runScript_22 (by decide) (fun c_6 => ?_) (fun c_6 => ?_)
        · skip
          refine lv_aload_n hx hb dX8_runScript_33 rfl (lv_at hl 0 rfl) ?_
          refine va_get (D := D) (ci := 6) (v := .ref (tr 0)) (C := RX8) (T := TX8) (N := 6) hx hb hts in_X8 hown hG.1 hP 0 g_Sp_0 rfl 2 (by decide) k_0 (fun _ h9 => h9) rfl dX8_runScript_34 ?_
          refine lv_aload_n hx hb dX8_runScript_37 rfl (lv_at hl 0 rfl) ?_
          refine va_get (D := D) (ci := 6) (v := .ref (na 0)) (C := RX8) (T := TX8) (N := 6) hx hb hts in_X8 hown hG.1 hP 0 g_Sp_0 rfl 1 (by decide) k_5 (fun _ h9 => h9) rfl dX8_runScript_38 ?_
          refine vwVN (ci := 3) (A0 := A) (As := [.ref (na 0)]) (rest := []) (W1 := (wSp cy xa sa sb tr na ka z)) (W2 := (wSp cy xa sa sb tr na ka (pR' z (pN z)))) ((c_X5_copyTo l D cy tr na (pR z) (pN z)).ctx q_cpRN q_cpRN) hCF gX8_runScript_X5_copyFrom_n276 (nw_X8_276 hG.2) k_6 k_7 k_8 rfl hd_X5_copyFrom ⟨rfl, rfl, Nat.le_of_ble_eq_true rfl, Nat.le_of_ble_eq_true rfl⟩ hG hP hD hS hA h_Sp rfl rfl (List.mem_of_getElem? g_Sp_35) rfl hl.1 rfl (Nat.le_of_ble_eq_true rfl) dX8_runScript_41 ⟨Nat.le_of_ble_eq_true rfl, Nat.le_of_ble_eq_true rfl⟩ (fun H locs hP hD hS => ?_)
          refine lv_iconst (v := (0 : Int32)) hx hb dX8_runScript_44 (by decide) ?_
          refine lv_istore (lv' := [(4, .int (0 : Int32)), (0, .ref (xa 0)), (1, .int x1), (2, .long x2)]) hx hb dX8_runScript_45 hl (by decide) rfl (fun ls hl => ?_)
          exact L_47 100 (pR' z (pN z)) (0 : Int32) (by decide) hN (rs_init c_4) (by rw [m_X8_runScript, if_neg c_3, if_neg c_4, if_neg c_5, if_pos c_6]) H locs hP hD hS ls (lv_sub hl [1, 2, 3, 0] rfl)
        · skip
          exact ex_thr (i := 2) (ik := 41) (ic := 43) hx hb hl0 hown (hts (Cond.classLink RX8 41 "java/lang/IllegalArgumentException") (List.mem_of_getElem? (i := 1) rfl)) (hts (Cond.initialized "java/lang/IllegalArgumentException") (List.mem_of_getElem? (i := 2) rfl)) (by decide) (fun w h => hts w (List.mem_cons_of_mem _ (List.mem_append_right _ h))) (by decide +kernel) (by decide +kernel) hF hS hP (hl.1.trans hml.symm) dX8_runScript_25 dX8_runScript_28 dX8_runScript_29 dX8_runScript_32 hnx (Nat.le_of_ble_eq_true rfl) (Nat.le_of_ble_eq_true rfl) (Nat.le_of_ble_eq_true rfl) (Nat.le_of_ble_eq_true rfl) hlocks (Nat.le_of_ble_eq_true rfl) (Nat.le_of_ble_eq_true rfl) (by rw [m_X8_runScript, if_neg c_3, if_neg c_4, if_neg c_5, if_neg c_6]) (by decide) (by rw [m_X8_runScript, if_neg c_3, if_neg c_4, if_neg c_5, if_neg c_6])
def m_X8_simulate_L36 : Nat → SpT → Int64 → Int32 → Int64 → Int32 → Nat × Int32 × SpT
  | 0, r, _, _, _, _ => (0, 0, r)
  | nF + 1, r, x1, x2, xx, ii => if x2 ≤ ii then (0, (((1000 : Int32) * (m_X7_usableOnes (sU (pR r)))) + ((100 : Int32) * (m_X0_all (sC (pR r))))) + (m_X1_all (sD (pR r))), r) else m_X8_simulate_L36 nF (pR' r (m_X4_turn (pR r) (((xx * (6364136223846793005 : Int64)) + (1442695040888963407 : Int64)).toUInt64 >>> ((33 : Int32).toInt64.toUInt64 &&& Int64.toUInt64 63)).toInt64.toInt32).2) x1 x2 ((xx * (6364136223846793005 : Int64)) + (1442695040888963407 : Int64)) (ii + (1 : Int32))
def m_X8_simulate (z : SpT) (x1 : Int64) (x2 : Int32) : Nat × Int32 × SpT := if x2 < (1 : Int32) then (2, (0 : Int32), z) else if x2 ≤ (99 : Int32) then m_X8_simulate_L36 1000 (pR' z (pN z)) x1 x2 x1 (0 : Int32) else (2, (0 : Int32), z)
theorem hd_X8_simulate : yX8_simulate.cls = RX8 ∧ yX8_simulate.cls ≠ "java/lang/invoke/MethodHandle" ∧ yX8_simulate.cls ≠ "java/lang/invoke/VarHandle" ∧ (parseMethodDescriptor yX8_simulate.desc).map (fun d => d.parameters.length) = some 2 := by decide +kernel
set_option maxHeartbeats 8000000 in
set_option maxRecDepth 20000 in
theorem c_X8_simulate (l : Launch) (hl0 : l.stackTraces = false) (D : va_G) (cy : Nat → ClassId) (t : FxA) (xa sa sb tr na : Nat → Nat) (ka : Nat → Nat → Nat) (z : SpT) (x1 : Int64) (x2 : Int32) (hN : stOK (pN z)) : EX l D cy t yX8_simulate wsX8_simulate ({ frames := 6, cells := 1, slots := 6, locals := 137 } : Room) (wSp cy xa sa sb tr na ka z) (wSp cy xa sa sb tr na ka (m_X8_simulate z x1 x2).2.2) [.ref (xa 0), .long x1, .int x2] 1 6 (m_X8_simulate z x1 x2).1 (m_X8_simulate z x1 x2).2.1 := by
  refine EX.body (by decide) rfl (Nat.le_of_ble_eq_true rfl) ?_
  intro p e s m below meth c hx hb hml hnx hr hts hown hlocks hP hG ls hl A hD hA hS hF
  have hl : lv_has ls 7 [(0, .ref (xa 0)), (1, .long x1), (3, .int x2)] := hl
  have hCF : CallFix p m c cX8_simulate 7 s ([.ref (xa 0), .long x1, .int x2] : List Value).toArray wsX8_simulate RX8 := ⟨hx, hb, hml, hown, hts⟩
  have in_X5 : ∀ w ∈ u_ws RX5 TX5 9, w ∈ wsX8_simulate := fun _ h => List.mem_cons_of_mem _ (List.mem_append_left _ (List.mem_append_left _ (List.mem_append_left _ (List.mem_append_left _ (List.mem_append_right _ h)))))
  have in_X8 : ∀ w ∈ u_ws RX8 TX8 6, w ∈ wsX8_simulate := fun _ h => List.mem_cons_of_mem _ (List.mem_append_left _ (List.mem_append_left _ (List.mem_append_left _ (List.mem_append_left _ (List.mem_append_left _ (List.mem_append_right _ h))))))
  have k_0 := hts (Cond.fieldLink RX8 23 "SparePool" "trial" "LSparePool$State;") (List.mem_of_getElem? (i := 3) rfl)
  have k_1 := hts (Cond.initialized RX7) (List.mem_of_getElem? (i := 25) rfl)
  have k_2 := hts (Cond.instanceMethod yX7_usableOnes) (List.mem_of_getElem? (i := 190) rfl)
  have k_3 := hts (Cond.selects RX7 yX7_usableOnes yX7_usableOnes) (List.mem_of_getElem? (i := 191) rfl)
  have k_4 := hts (Cond.initialized RX0) (List.mem_of_getElem? (i := 36) rfl)
  have k_5 := hts (Cond.instanceMethod yX0_all) (List.mem_of_getElem? (i := 193) rfl)
  have k_6 := hts (Cond.selects RX0 yX0_all yX0_all) (List.mem_of_getElem? (i := 194) rfl)
  have k_7 := hts (Cond.initialized RX1) (List.mem_of_getElem? (i := 44) rfl)
  have k_8 := hts (Cond.instanceMethod yX1_all) (List.mem_of_getElem? (i := 196) rfl)
  have k_9 := hts (Cond.selects RX1 yX1_all yX1_all) (List.mem_of_getElem? (i := 197) rfl)
  have k_10 := hts (Cond.constantLong RX8 287 (6364136223846793005)) (List.mem_of_getElem? (i := 5) rfl)
  have k_11 := hts (Cond.constantLong RX8 289 (1442695040888963407)) (List.mem_of_getElem? (i := 6) rfl)
  have k_12 := hts (Cond.initialized RX4) (List.mem_of_getElem? (i := 50) rfl)
  have k_13 := hts (Cond.static yX4_turn) (List.mem_of_getElem? (i := 49) rfl)
  have k_14 := hts (Cond.fieldLink RX8 19 "SparePool" "now" "LSparePool$State;") (List.mem_of_getElem? (i := 4) rfl)
  have k_15 := hts (Cond.initialized RX5) (List.mem_of_getElem? (i := 8) rfl)
  have k_16 := hts (Cond.instanceMethod yX5_copyFrom) (List.mem_of_getElem? (i := 7) rfl)
  have k_17 := hts (Cond.selects RX5 yX5_copyFrom yX5_copyFrom) (List.mem_of_getElem? (i := 9) rfl)
  have hP : va_P D vwCl (wSp cy xa sa sb tr na ka z) s.heap := hP
  have L_36 : ∀ (nF : Nat) (r : SpT) (xx : Int64) (ii : Int32), 0 ≤ ii.toInt → stOK (pR r) → (x2.toInt - ii.toInt).toNat < nF → m_X8_simulate_L36 nF r x1 x2 xx ii = (m_X8_simulate z x1 x2) → ∀ (H : Heap) (locs : List Loc), va_P D vwCl (wSp cy xa sa sb tr na ka r) H → va_D A (wSp cy xa sa sb tr na ka r) → va_S A s.heap H locs → ∀ ls : Array Slot, lv_has ls 7 [(0, .ref (xa 0)), (1, .long x1), (3, .int x2), (4, .long xx), (6, .int ii)] → @Wx p l e ({ frames := 6, cells := 1, slots := 6, locals := 137 } : Room) s m ([.ref (xa 0), .long x1, .int x2] : List Value).toArray below meth c H locs 0 0 (vx_MQ below (va_Qi (fun v_ (_ : Unit) => (m_X8_simulate z x1 x2).1 = 0 ∧ v_ = (m_X8_simulate z x1 x2).2.1) (fun _ u => va_P D vwCl (wSp cy xa sa sb tr na ka (m_X8_simulate z x1 x2).2.2) u.heap) A) (vx_X (fun (_ : Unit) => True) (fun E _ u => 0 < (m_X8_simulate z x1 x2).1 ∧ E = exN (m_X8_simulate z x1 x2).1 ∧ va_P D vwCl (wSp cy xa sa sb tr na ka (m_X8_simulate z x1 x2).2.2) u.heap) A) ([.ref (xa 0), .long x1, .int x2] : List Value).toArray s 1 6 A) (F0 m 36 ls []) := by
    intro nF
    induction nF with
    | zero => intro r xx ii h0 hR hm; exact absurd hm (Nat.not_lt_zero _)
    | succ nF ih =>
      intro r xx ii h0 hR hm hQ H locs hP hD hS ls hl
      refine lv_iload hx hb dX8_simulate_36 (lv_at hl 4 rfl) ?_
      refine lv_iload_n hx hb dX8_simulate_38 rfl (lv_at hl 2 rfl) ?_
      refine lv_icmp_ge (tgt := 74) hx hb dX8_simulate_39 (by decide) (fun c_1 => ?_) (fun c_1 => ?_)
      · skip
        refine lv_sipush (v := (1000 : Int32)) hx hb dX8_simulate_74 (by decide) ?_
        refine lv_aload_n hx hb dX8_simulate_77 rfl (lv_at hl 0 rfl) ?_
        refine va_get (D := D) (ci := 6) (v := .ref (tr 0)) (C := RX8) (T := TX8) (N := 6) hx hb hts in_X8 hown hG.1 hP 0 g_Sp_0 rfl 2 (by decide) k_0 (fun _ h9 => h9) rfl dX8_simulate_78 ?_
        refine va_getN (D := D) (ci := 3) (v := .ref (tr 1)) (C := RX5) (T := TX5) (N := 9) hx hb hts in_X5 hown hG.1 hP 35 g_Sp_35 rfl 0 (by decide) (va_Nw.use rfl (nw_X8_109 hG.2)) (fun _ h9 => h9) rfl dX8_simulate_81 ?_
        refine roVN (wc := (wUn cy (tr 1) (tr 2) (tr 3) (tr 4) (tr 5) (tr 6) (sU (pR r)))) (As := []) (rest := [.int (1000 : Int32)]) (c_X7_usableOnes l D cy (tr 1) (tr 2) (tr 3) (tr 4) (tr 5) (tr 6) (sU (pR r)) hR.1) hCF gX8_simulate_X7_usableOnes_n118 (nw_X8_118 hG.2) k_1 k_2 k_3 rfl hd_X7_usableOnes ⟨rfl, rfl, Nat.le_of_ble_eq_true rfl, Nat.le_of_ble_eq_true rfl⟩ hG (hP.sub (ws' := (wUn cy (tr 1) (tr 2) (tr 3) (tr 4) (tr 5) (tr 6) (sU (pR r)))) [36, 37, 38, 39, 40, 41] u_Sp_Un36) (ci := 5) rfl rfl g_Un_0 rfl hl.1 rfl (Nat.le_of_ble_eq_true rfl) dX8_simulate_84 ⟨Nat.le_of_ble_eq_true rfl, Nat.le_of_ble_eq_true rfl⟩ ?_
        refine lv_imul hx hb dX8_simulate_87 ?_
        refine lv_bipush (v := (100 : Int32)) hx hb dX8_simulate_88 (by decide) ?_
        refine lv_aload_n hx hb dX8_simulate_90 rfl (lv_at hl 0 rfl) ?_
        refine va_get (D := D) (ci := 6) (v := .ref (tr 0)) (C := RX8) (T := TX8) (N := 6) hx hb hts in_X8 hown hG.1 hP 0 g_Sp_0 rfl 2 (by decide) k_0 (fun _ h9 => h9) rfl dX8_simulate_91 ?_
        refine va_getN (D := D) (ci := 3) (v := .ref (tr 7)) (C := RX5) (T := TX5) (N := 9) hx hb hts in_X5 hown hG.1 hP 35 g_Sp_35 rfl 1 (by decide) (va_Nw.use rfl (nw_X8_127 hG.2)) (fun _ h9 => h9) rfl dX8_simulate_94 ?_
        refine roVN (wc := (wCo cy (tr 7) (tr 8) (tr 9) (tr 10) (sC (pR r)))) (As := []) (rest := [.int (100 : Int32), .int ((1000 : Int32) * (m_X7_usableOnes (sU (pR r))))]) (c_X0_all l D cy (tr 7) (tr 8) (tr 9) (tr 10) (sC (pR r)) hR.2) hCF gX8_simulate_X0_all_n131 (nw_X8_131 hG.2) k_4 k_5 k_6 rfl hd_X0_all ⟨rfl, rfl, Nat.le_of_ble_eq_true rfl, Nat.le_of_ble_eq_true rfl⟩ hG (hP.sub (ws' := (wCo cy (tr 7) (tr 8) (tr 9) (tr 10) (sC (pR r)))) [42, 43, 44, 45] u_Sp_Co42) (ci := 0) rfl rfl g_Co_0 rfl hl.1 rfl (Nat.le_of_ble_eq_true rfl) dX8_simulate_97 ⟨Nat.le_of_ble_eq_true rfl, Nat.le_of_ble_eq_true rfl⟩ ?_
        refine lv_imul hx hb dX8_simulate_100 ?_
        refine lv_iadd hx hb dX8_simulate_101 ?_
        refine lv_aload_n hx hb dX8_simulate_102 rfl (lv_at hl 0 rfl) ?_
        refine va_get (D := D) (ci := 6) (v := .ref (tr 0)) (C := RX8) (T := TX8) (N := 6) hx hb hts in_X8 hown hG.1 hP 0 g_Sp_0 rfl 2 (by decide) k_0 (fun _ h9 => h9) rfl dX8_simulate_103 ?_
        refine va_getN (D := D) (ci := 3) (v := .ref (tr 11)) (C := RX5) (T := TX5) (N := 9) hx hb hts in_X5 hown hG.1 hP 35 g_Sp_35 rfl 2 (by decide) (va_Nw.use rfl (nw_X8_136 hG.2)) (fun _ h9 => h9) rfl dX8_simulate_106 ?_
        refine roVN (wc := (wDe cy (tr 11) (tr 12) (sD (pR r)))) (As := []) (rest := [.int (((1000 : Int32) * (m_X7_usableOnes (sU (pR r)))) + ((100 : Int32) * (m_X0_all (sC (pR r)))))]) (c_X1_all l D cy (tr 11) (tr 12) (sD (pR r))) hCF gX8_simulate_X1_all_n140 (nw_X8_140 hG.2) k_7 k_8 k_9 rfl hd_X1_all ⟨rfl, rfl, Nat.le_of_ble_eq_true rfl, Nat.le_of_ble_eq_true rfl⟩ hG (hP.sub (ws' := (wDe cy (tr 11) (tr 12) (sD (pR r)))) [46, 47] u_Sp_De46) (ci := 1) rfl rfl g_De_0 rfl hl.1 rfl (Nat.le_of_ble_eq_true rfl) dX8_simulate_109 ⟨Nat.le_of_ble_eq_true rfl, Nat.le_of_ble_eq_true rfl⟩ ?_
        refine lv_iadd hx hb dX8_simulate_112 ?_
        exact ex_iret hx hb hr hlocks hP hS (Nat.le_of_ble_eq_true rfl) (Nat.le_of_ble_eq_true rfl) dX8_simulate_113 (by rw [← hQ, m_X8_simulate_L36, if_pos c_1]) (by rw [← hQ, m_X8_simulate_L36, if_pos c_1]) (by rw [← hQ, m_X8_simulate_L36, if_pos c_1])
      · skip
        refine lv_lload hx hb dX8_simulate_42 (lv_at hl 3 rfl) ?_
        refine lv_ldc2 (v := (6364136223846793005 : Int64)) hx hb hown k_10 dX8_simulate_44 ?_
        refine lv_lmul hx hb dX8_simulate_47 ?_
        refine lv_ldc2 (v := (1442695040888963407 : Int64)) hx hb hown k_11 dX8_simulate_48 ?_
        refine lv_ladd hx hb dX8_simulate_51 ?_
        refine lv_lstore (lv' := [(4, .long ((xx * (6364136223846793005 : Int64)) + (1442695040888963407 : Int64))), (0, .ref (xa 0)), (1, .long x1), (3, .int x2), (6, .int ii)]) hx hb dX8_simulate_52 hl (by decide) rfl (fun ls hl => ?_)
        refine lv_aload_n hx hb dX8_simulate_54 rfl (lv_at hl 1 rfl) ?_
        refine va_get (D := D) (ci := 6) (v := .ref (tr 0)) (C := RX8) (T := TX8) (N := 6) hx hb hts in_X8 hown hG.1 hP 0 g_Sp_0 rfl 2 (by decide) k_0 (fun _ h9 => h9) rfl dX8_simulate_55 ?_
        refine lv_lload hx hb dX8_simulate_58 (lv_at hl 0 rfl) ?_
        refine lv_bipush (v := (33 : Int32)) hx hb dX8_simulate_60 (by decide) ?_
        refine lv_lushr hx hb dX8_simulate_62 rfl ?_
        refine lv_l2i hx hb dX8_simulate_63 rfl ?_
        refine lv_topi (fun g9 hg9 => ?_)
        refine mwSN (A0 := A) (As := [.ref (tr 0), .int g9]) (rest := []) (W1 := (wSp cy xa sa sb tr na ka r)) (W2 := (wSp cy xa sa sb tr na ka (pR' r (m_X4_turn (pR r) g9).2))) ((c_X4_turn l D cy tr (pR r) g9 hR).ctx q_R q_R) hCF gX8_simulate_X4_turn_n291 (nw_X8_291 hG.2) k_12 k_13 rfl hd_X4_turn.2 ⟨rfl, rfl, Nat.le_of_ble_eq_true rfl, Nat.le_of_ble_eq_true rfl⟩ hG hP hD hS hA h_Sp rfl hl.1 rfl (Nat.le_of_ble_eq_true rfl) dX8_simulate_64 ⟨Nat.le_of_ble_eq_true rfl, Nat.le_of_ble_eq_true rfl⟩ (fun H locs hP hD hS => ?_)
        refine lv_pop hx hb dX8_simulate_67 rfl ?_
        refine lv_iinc (v := (ii + (1 : Int32))) (lv' := [(6, .int (ii + (1 : Int32))), (4, .long ((xx * (6364136223846793005 : Int64)) + (1442695040888963407 : Int64))), (0, .ref (xa 0)), (1, .long x1), (3, .int x2)]) hx hb dX8_simulate_68 hl (k := 4) rfl rfl (by decide) rfl (fun ls hl => ?_)
        refine lv_goto (tgt := 36) hx hb dX8_simulate_71 (by decide) ?_
        exact ih  (pR' r (m_X4_turn (pR r) g9).2) ((xx * (6364136223846793005 : Int64)) + (1442695040888963407 : Int64)) (ii + (1 : Int32)) (lp_up h0 c_1) (ok_turn hR) (lp_dec h0 c_1 hm) (by rw [hg9, ← hQ, m_X8_simulate_L36, if_neg c_1]) H locs hP hD hS ls (lv_sub hl [2, 3, 4, 1, 0] rfl)
  refine lv_iload_n hx hb dX8_simulate_0 rfl (lv_at hl 2 rfl) ?_
  refine lv_iconst (v := (1 : Int32)) hx hb dX8_simulate_1 (by decide) ?_
  refine lv_icmp_lt (tgt := 11) hx hb dX8_simulate_2 (by decide) (fun c_2 => ?_) (fun c_2 => ?_)
  · skip
    exact ex_thr (i := 2) (ik := 41) (ic := 43) hx hb hl0 hown (hts (Cond.classLink RX8 41 "java/lang/IllegalArgumentException") (List.mem_of_getElem? (i := 1) rfl)) (hts (Cond.initialized "java/lang/IllegalArgumentException") (List.mem_of_getElem? (i := 2) rfl)) (by decide) (fun w h => hts w (List.mem_cons_of_mem _ (List.mem_append_right _ h))) (by decide +kernel) (by decide +kernel) hF hS hP (hl.1.trans hml.symm) dX8_simulate_11 dX8_simulate_14 dX8_simulate_15 dX8_simulate_18 hnx (Nat.le_of_ble_eq_true rfl) (Nat.le_of_ble_eq_true rfl) (Nat.le_of_ble_eq_true rfl) (Nat.le_of_ble_eq_true rfl) hlocks (Nat.le_of_ble_eq_true rfl) (Nat.le_of_ble_eq_true rfl) (by rw [m_X8_simulate, if_pos c_2]) (by decide) (by rw [m_X8_simulate, if_pos c_2])
  · skip
    refine lv_iload_n hx hb dX8_simulate_5 rfl (lv_at hl 2 rfl) ?_
    refine lv_bipush (v := (99 : Int32)) hx hb dX8_simulate_6 (by decide) ?_
    refine lv_icmp_le (tgt := 19) hx hb dX8_simulate_8 (by decide) (fun c_3 => ?_) (fun c_3 => ?_)
    · skip
      refine lv_aload_n hx hb dX8_simulate_19 rfl (lv_at hl 0 rfl) ?_
      refine va_get (D := D) (ci := 6) (v := .ref (tr 0)) (C := RX8) (T := TX8) (N := 6) hx hb hts in_X8 hown hG.1 hP 0 g_Sp_0 rfl 2 (by decide) k_0 (fun _ h9 => h9) rfl dX8_simulate_20 ?_
      refine lv_aload_n hx hb dX8_simulate_23 rfl (lv_at hl 0 rfl) ?_
      refine va_get (D := D) (ci := 6) (v := .ref (na 0)) (C := RX8) (T := TX8) (N := 6) hx hb hts in_X8 hown hG.1 hP 0 g_Sp_0 rfl 1 (by decide) k_14 (fun _ h9 => h9) rfl dX8_simulate_24 ?_
      refine vwVN (ci := 3) (A0 := A) (As := [.ref (na 0)]) (rest := []) (W1 := (wSp cy xa sa sb tr na ka z)) (W2 := (wSp cy xa sa sb tr na ka (pR' z (pN z)))) ((c_X5_copyTo l D cy tr na (pR z) (pN z)).ctx q_cpRN q_cpRN) hCF gX8_simulate_X5_copyFrom_n276 (nw_X8_276 hG.2) k_15 k_16 k_17 rfl hd_X5_copyFrom ⟨rfl, rfl, Nat.le_of_ble_eq_true rfl, Nat.le_of_ble_eq_true rfl⟩ hG hP hD hS hA h_Sp rfl rfl (List.mem_of_getElem? g_Sp_35) rfl hl.1 rfl (Nat.le_of_ble_eq_true rfl) dX8_simulate_27 ⟨Nat.le_of_ble_eq_true rfl, Nat.le_of_ble_eq_true rfl⟩ (fun H locs hP hD hS => ?_)
      refine lv_lload_n hx hb dX8_simulate_30 rfl (lv_at hl 1 rfl) ?_
      refine lv_lstore (lv' := [(4, .long x1), (0, .ref (xa 0)), (1, .long x1), (3, .int x2)]) hx hb dX8_simulate_31 hl (by decide) rfl (fun ls hl => ?_)
      refine lv_iconst (v := (0 : Int32)) hx hb dX8_simulate_33 (by decide) ?_
      refine lv_istore (lv' := [(6, .int (0 : Int32)), (4, .long x1), (0, .ref (xa 0)), (1, .long x1), (3, .int x2)]) hx hb dX8_simulate_34 hl (by decide) rfl (fun ls hl => ?_)
      exact L_36 1000 (pR' z (pN z)) x1 (0 : Int32) (by decide) hN (sm_init c_3) (by rw [m_X8_simulate, if_neg c_2, if_pos c_3]) H locs hP hD hS ls (lv_sub hl [2, 3, 4, 1, 0] rfl)
    · skip
      exact ex_thr (i := 2) (ik := 41) (ic := 43) hx hb hl0 hown (hts (Cond.classLink RX8 41 "java/lang/IllegalArgumentException") (List.mem_of_getElem? (i := 1) rfl)) (hts (Cond.initialized "java/lang/IllegalArgumentException") (List.mem_of_getElem? (i := 2) rfl)) (by decide) (fun w h => hts w (List.mem_cons_of_mem _ (List.mem_append_right _ h))) (by decide +kernel) (by decide +kernel) hF hS hP (hl.1.trans hml.symm) dX8_simulate_11 dX8_simulate_14 dX8_simulate_15 dX8_simulate_18 hnx (Nat.le_of_ble_eq_true rfl) (Nat.le_of_ble_eq_true rfl) (Nat.le_of_ble_eq_true rfl) (Nat.le_of_ble_eq_true rfl) hlocks (Nat.le_of_ble_eq_true rfl) (Nat.le_of_ble_eq_true rfl) (by rw [m_X8_simulate, if_neg c_2, if_neg c_3]) (by decide) (by rw [m_X8_simulate, if_neg c_2, if_neg c_3])
