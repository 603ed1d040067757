def m_X5_tryCome (st : StT) (x1 : Int32) (x2 : Int32) (x3 : Int32) : Int32 × StT := if (m_X8_isKind x1) = (0 : Int32) then ((-1 : Int32), st) else if (m_X8_isHolder x2) = (0 : Int32) then ((-1 : Int32), st) else if x3 < (0 : Int32) then ((-2 : Int32), st) else if x3 ≤ (7 : Int32) then if (uN (sU st)) < (16 : Int32) then ((m_X7_add (sU st) x1 x2 x3).1, sU' st (m_X7_add (sU st) x1 x2 x3).2) else ((-3 : Int32), st) else ((-2 : Int32), st)
theorem hd_X5_tryCome : yX5_tryCome.cls = RX5 ∧ yX5_tryCome.cls ≠ "java/lang/invoke/MethodHandle" ∧ yX5_tryCome.cls ≠ "java/lang/invoke/VarHandle" ∧ (parseMethodDescriptor yX5_tryCome.desc).map (fun d => d.parameters.length) = some 3 := by decide +kernel
set_option maxHeartbeats 8000000 in
set_option maxRecDepth 20000 in
theorem c_X5_tryCome (l : Launch) (D : va_G) (cy : Nat → ClassId) (a : Nat → Nat) (st : StT) (x1 : Int32) (x2 : Int32) (x3 : Int32) (hOK : stOK st) : MU l D cy yX5_tryCome wsX5_tryCome ({ frames := 3, cells := 0, slots := 0, locals := 67 } : Room) (wSt cy a st) (wSt cy a (m_X5_tryCome st x1 x2 x3).2) [.ref (a 0), .int x1, .int x2, .int x3] (m_X5_tryCome st x1 x2 x3).1 := by
  refine MU.body (by decide) rfl (Nat.le_of_ble_eq_true rfl) ?_
  intro p e s m below meth c hx hb hml hr hts hown hlocks hP hG ls hl A hD hA hS
  have hl : lv_has ls 4 [(0, .ref (a 0)), (1, .int x1), (2, .int x2), (3, .int x3)] := hl
  have hCF : CallFix p m c cX5_tryCome 4 s ([.ref (a 0), .int x1, .int x2, .int x3] : List Value).toArray wsX5_tryCome RX5 := ⟨hx, hb, hml, hown, hts⟩
  have in_X5 : ∀ w ∈ u_ws RX5 TX5 9, w ∈ wsX5_tryCome := fun _ h => List.mem_cons_of_mem _ (List.mem_append_left _ (List.mem_append_right _ h))
  have in_X7 : ∀ w ∈ u_ws RX7 TX7 6, w ∈ wsX5_tryCome := fun _ h => List.mem_cons_of_mem _ (List.mem_append_right _ h)
  have k_0 := hts (Cond.initialized RX8) (List.mem_of_getElem? (i := 3) rfl)
  have k_1 := hts (Cond.static yX8_isKind) (List.mem_of_getElem? (i := 2) rfl)
  have k_2 := hts (Cond.static yX8_isHolder) (List.mem_of_getElem? (i := 5) rfl)
  have k_3 := hts (Cond.fieldLink RX5 12 "SparePool$State" "units" "LSparePool$Units;") (List.mem_of_getElem? (i := 1) rfl)
  have k_4 := hts (Cond.initialized RX7) (List.mem_of_getElem? (i := 8) rfl)
  have k_5 := hts (Cond.instanceMethod yX7_add) (List.mem_of_getElem? (i := 7) rfl)
  have k_6 := hts (Cond.selects RX7 yX7_add yX7_add) (List.mem_of_getElem? (i := 9) rfl)
  have hP : va_P D vwCl (wSt cy a st) s.heap := hP
  refine lv_iload_n hx hb dX5_tryCome_0 rfl (lv_at hl 1 rfl) ?_
  refine roSN (wc := ([] : va_W)) (As := [.int x1]) (rest := []) (c_X8_isKind l D cy x1) hCF gX5_tryCome_X8_isKind_n78 (nw_X5_78 hG.2) k_0 k_1 rfl hd_X8_isKind.2 ⟨rfl, rfl, Nat.le_of_ble_eq_true rfl, Nat.le_of_ble_eq_true rfl⟩ hG va_P_nil rfl hl.1 rfl (Nat.le_of_ble_eq_true rfl) dX5_tryCome_1 ⟨Nat.le_refl _, Nat.le_refl _⟩ ?_
  refine lv_if_eq (tgt := 14) hx hb dX5_tryCome_4 (by decide) (fun c_1 => ?_) (fun c_1 => ?_)
  · skip
    refine lv_iconst (v := (-1 : Int32)) hx hb dX5_tryCome_14 (by decide) ?_
    exact mu_iret hx hb hr hlocks hP hS dX5_tryCome_15 (by rw [m_X5_tryCome, if_pos c_1]) (by rw [m_X5_tryCome, if_pos c_1])
  · skip
    refine lv_iload_n hx hb dX5_tryCome_7 rfl (lv_at hl 2 rfl) ?_
    refine roSN (wc := ([] : va_W)) (As := [.int x2]) (rest := []) (c_X8_isHolder l D cy x2) hCF gX5_tryCome_X8_isHolder_n82 (nw_X5_82 hG.2) k_0 k_2 rfl hd_X8_isHolder.2 ⟨rfl, rfl, Nat.le_of_ble_eq_true rfl, Nat.le_of_ble_eq_true rfl⟩ hG va_P_nil rfl hl.1 rfl (Nat.le_of_ble_eq_true rfl) dX5_tryCome_8 ⟨Nat.le_refl _, Nat.le_refl _⟩ ?_
    refine lv_if_ne (tgt := 16) hx hb dX5_tryCome_11 (by decide) (fun c_2 => ?_) (fun c_2 => ?_)
    · skip
      refine lv_iload_n hx hb dX5_tryCome_16 rfl (lv_at hl 3 rfl) ?_
      refine lv_if_lt (tgt := 26) hx hb dX5_tryCome_17 (by decide) (fun c_3 => ?_) (fun c_3 => ?_)
      · skip
        refine lv_bipush (v := (-2 : Int32)) hx hb dX5_tryCome_26 (by decide) ?_
        exact mu_iret hx hb hr hlocks hP hS dX5_tryCome_28 (by rw [m_X5_tryCome, if_neg c_1, if_neg c_2, if_pos c_3]) (by rw [m_X5_tryCome, if_neg c_1, if_neg c_2, if_pos c_3])
      · skip
        refine lv_iload_n hx hb dX5_tryCome_20 rfl (lv_at hl 3 rfl) ?_
        refine lv_bipush (v := (7 : Int32)) hx hb dX5_tryCome_21 (by decide) ?_
        refine lv_icmp_le (tgt := 29) hx hb dX5_tryCome_23 (by decide) (fun c_4 => ?_) (fun c_4 => ?_)
        · skip
          refine lv_aload_n hx hb dX5_tryCome_29 rfl (lv_at hl 0 rfl) ?_
          refine va_get (D := D) (ci := 3) (v := .ref (a 1)) (C := RX5) (T := TX5) (N := 9) hx hb hts in_X5 hown hG.1 hP 0 g_St_0 rfl 0 (by decide) k_3 (fun _ h9 => h9) rfl dX5_tryCome_30 ?_
          refine va_getN (D := D) (ci := 5) (v := .int (uN (sU st))) (C := RX7) (T := TX7) (N := 6) hx hb hts in_X7 hown hG.1 hP 1 g_St_1 rfl 5 (by decide) (va_Nw.use rfl (nw_X5_48 hG.2)) (fun _ h9 => h9) rfl dX5_tryCome_33 ?_
          refine lv_bipush (v := (16 : Int32)) hx hb dX5_tryCome_36 (by decide) ?_
          refine lv_icmp_lt (tgt := 44) hx hb dX5_tryCome_38 (by decide) (fun c_5 => ?_) (fun c_5 => ?_)
          · skip
            refine lv_aload_n hx hb dX5_tryCome_44 rfl (lv_at hl 0 rfl) ?_
            refine va_get (D := D) (ci := 3) (v := .ref (a 1)) (C := RX5) (T := TX5) (N := 9) hx hb hts in_X5 hown hG.1 hP 0 g_St_0 rfl 0 (by decide) k_3 (fun _ h9 => h9) rfl dX5_tryCome_45 ?_
            refine lv_iload_n hx hb dX5_tryCome_48 rfl (lv_at hl 1 rfl) ?_
            refine lv_iload_n hx hb dX5_tryCome_49 rfl (lv_at hl 2 rfl) ?_
            refine lv_iload_n hx hb dX5_tryCome_50 rfl (lv_at hl 3 rfl) ?_
            refine muVN (A0 := A) (wc := (wUn cy (a 1) (a 2) (a 3) (a 4) (a 5) (a 6) (sU st))) (As := [.int x1, .int x2, .int x3]) (rest := []) (c_X7_add l D cy (a 1) (a 2) (a 3) (a 4) (a 5) (a 6) (sU st) x1 x2 x3 hOK.1) hCF gX5_tryCome_X7_add_n85 (nw_X5_85 hG.2) k_4 k_5 k_6 rfl hd_X7_add ⟨rfl, rfl, Nat.le_of_ble_eq_true rfl, Nat.le_of_ble_eq_true rfl⟩ hG hP hD hS hA [1, 2, 3, 4, 5, 6] rfl c_St_Un h_Un (ci := 5) rfl rfl g_Un_0 rfl hl.1 rfl (Nat.le_of_ble_eq_true rfl) dX5_tryCome_51 ⟨Nat.le_refl _, Nat.le_refl _⟩ (fun H locs hP hD hS => ?_)
            have hP : va_P D vwCl (wSt cy a (sU' st (m_X7_add (sU st) x1 x2 x3).2)) H := va_P_eq hP r_St_Un
            have hD : va_D A (wSt cy a (sU' st (m_X7_add (sU st) x1 x2 x3).2)) := va_D_eq hD r_St_Un
            exact mu_iret hx hb hr hlocks hP hS dX5_tryCome_54 (by rw [m_X5_tryCome, if_neg c_1, if_neg c_2, if_neg c_3, if_pos c_4, if_pos c_5]) (by rw [m_X5_tryCome, if_neg c_1, if_neg c_2, if_neg c_3, if_pos c_4, if_pos c_5])
          · skip
            refine lv_bipush (v := (-3 : Int32)) hx hb dX5_tryCome_41 (by decide) ?_
            exact mu_iret hx hb hr hlocks hP hS dX5_tryCome_43 (by rw [m_X5_tryCome, if_neg c_1, if_neg c_2, if_neg c_3, if_pos c_4, if_neg c_5]) (by rw [m_X5_tryCome, if_neg c_1, if_neg c_2, if_neg c_3, if_pos c_4, if_neg c_5])
        · skip
          refine lv_bipush (v := (-2 : Int32)) hx hb dX5_tryCome_26 (by decide) ?_
          exact mu_iret hx hb hr hlocks hP hS dX5_tryCome_28 (by rw [m_X5_tryCome, if_neg c_1, if_neg c_2, if_neg c_3, if_neg c_4]) (by rw [m_X5_tryCome, if_neg c_1, if_neg c_2, if_neg c_3, if_neg c_4])
    · skip
      refine lv_iconst (v := (-1 : Int32)) hx hb dX5_tryCome_14 (by decide) ?_
      exact mu_iret hx hb hr hlocks hP hS dX5_tryCome_15 (by rw [m_X5_tryCome, if_neg c_1, if_pos c_2]) (by rw [m_X5_tryCome, if_neg c_1, if_pos c_2])
def m_X5_tryLend (st : StT) (x1 : Int32) (x2 : Int32) (x3 : Int32) : Int32 × StT := if (m_X7_has (sU st) x1) = (0 : Int32) then ((-1 : Int32), st) else if (m_X8_isHolder x2) = (0 : Int32) then ((-1 : Int32), st) else if (m_X8_isTerm x3) = (0 : Int32) then ((-2 : Int32), st) else if (m_X7_isFree (sU st) x1) = (0 : Int32) then ((-3 : Int32), st) else if ((uO (sU st)) x1.toNatClampNeg) = x2 then ((-3 : Int32), st) else ((upd (uD (sU st)) x1.toNatClampNeg ((sT st) + x3)) x1.toNatClampNeg, sU' st (uD' (uP' (sU st) (upd (uP (sU st)) x1.toNatClampNeg x2)) (upd (uD (sU st)) x1.toNatClampNeg ((sT st) + x3))))
theorem hd_X5_tryLend : yX5_tryLend.cls = RX5 ∧ yX5_tryLend.cls ≠ "java/lang/invoke/MethodHandle" ∧ yX5_tryLend.cls ≠ "java/lang/invoke/VarHandle" ∧ (parseMethodDescriptor yX5_tryLend.desc).map (fun d => d.parameters.length) = some 3 := by decide +kernel
set_option maxHeartbeats 8000000 in
set_option maxRecDepth 20000 in
theorem c_X5_tryLend (l : Launch) (D : va_G) (cy : Nat → ClassId) (a : Nat → Nat) (st : StT) (x1 : Int32) (x2 : Int32) (x3 : Int32) (hOK : stOK st) : MU l D cy yX5_tryLend wsX5_tryLend ({ frames := 2, cells := 0, slots := 0, locals := 42 } : Room) (wSt cy a st) (wSt cy a (m_X5_tryLend st x1 x2 x3).2) [.ref (a 0), .int x1, .int x2, .int x3] (m_X5_tryLend st x1 x2 x3).1 := by
  refine MU.body (by decide) rfl (Nat.le_of_ble_eq_true rfl) ?_
  intro p e s m below meth c hx hb hml hr hts hown hlocks hP hG ls hl A hD hA hS
  have hl : lv_has ls 4 [(0, .ref (a 0)), (1, .int x1), (2, .int x2), (3, .int x3)] := hl
  have hCF : CallFix p m c cX5_tryLend 4 s ([.ref (a 0), .int x1, .int x2, .int x3] : List Value).toArray wsX5_tryLend RX5 := ⟨hx, hb, hml, hown, hts⟩
  have in_X5 : ∀ w ∈ u_ws RX5 TX5 9, w ∈ wsX5_tryLend := fun _ h => List.mem_cons_of_mem _ (List.mem_append_left _ (List.mem_append_right _ h))
  have in_X7 : ∀ w ∈ u_ws RX7 TX7 6, w ∈ wsX5_tryLend := fun _ h => List.mem_cons_of_mem _ (List.mem_append_right _ h)
  have k_0 := hts (Cond.fieldLink RX5 12 "SparePool$State" "units" "LSparePool$Units;") (List.mem_of_getElem? (i := 1) rfl)
  have k_1 := hts (Cond.initialized RX7) (List.mem_of_getElem? (i := 4) rfl)
  have k_2 := hts (Cond.instanceMethod yX7_has) (List.mem_of_getElem? (i := 3) rfl)
  have k_3 := hts (Cond.selects RX7 yX7_has yX7_has) (List.mem_of_getElem? (i := 5) rfl)
  have k_4 := hts (Cond.initialized RX8) (List.mem_of_getElem? (i := 9) rfl)
  have k_5 := hts (Cond.static yX8_isHolder) (List.mem_of_getElem? (i := 8) rfl)
  have k_6 := hts (Cond.static yX8_isTerm) (List.mem_of_getElem? (i := 11) rfl)
  have k_7 := hts (Cond.instanceMethod yX7_isFree) (List.mem_of_getElem? (i := 13) rfl)
  have k_8 := hts (Cond.selects RX7 yX7_isFree yX7_isFree) (List.mem_of_getElem? (i := 14) rfl)
  have k_9 := hts (Cond.fieldLink RX5 56 "SparePool$State" "today" "I") (List.mem_of_getElem? (i := 2) rfl)
  have hP : va_P D vwCl (wSt cy a st) s.heap := hP
  refine lv_aload_n hx hb dX5_tryLend_0 rfl (lv_at hl 0 rfl) ?_
  refine va_get (D := D) (ci := 3) (v := .ref (a 1)) (C := RX5) (T := TX5) (N := 9) hx hb hts in_X5 hown hG.1 hP 0 g_St_0 rfl 0 (by decide) k_0 (fun _ h9 => h9) rfl dX5_tryLend_1 ?_
  refine lv_iload_n hx hb dX5_tryLend_4 rfl (lv_at hl 1 rfl) ?_
  refine roVN (wc := (wUn cy (a 1) (a 2) (a 3) (a 4) (a 5) (a 6) (sU st))) (As := [.int x1]) (rest := []) (c_X7_has l D cy (a 1) (a 2) (a 3) (a 4) (a 5) (a 6) (sU st) x1 hOK.1) hCF gX5_tryLend_X7_has_n89 (nw_X5_89 hG.2) k_1 k_2 k_3 rfl hd_X7_has ⟨rfl, rfl, Nat.le_of_ble_eq_true rfl, Nat.le_of_ble_eq_true rfl⟩ hG (hP.sub (ws' := (wUn cy (a 1) (a 2) (a 3) (a 4) (a 5) (a 6) (sU st))) [1, 2, 3, 4, 5, 6] u_St_Un) (ci := 5) rfl rfl g_Un_0 rfl hl.1 rfl (Nat.le_of_ble_eq_true rfl) dX5_tryLend_5 ⟨Nat.le_refl _, Nat.le_refl _⟩ ?_
  refine lv_if_eq (tgt := 18) hx hb dX5_tryLend_8 (by decide) (fun c_1 => ?_) (fun c_1 => ?_)
  · skip
    refine lv_iconst (v := (-1 : Int32)) hx hb dX5_tryLend_18 (by decide) ?_
    exact mu_iret hx hb hr hlocks hP hS dX5_tryLend_19 (by rw [m_X5_tryLend, if_pos c_1]) (by rw [m_X5_tryLend, if_pos c_1])
  · skip
    refine lv_iload_n hx hb dX5_tryLend_11 rfl (lv_at hl 2 rfl) ?_
    refine roSN (wc := ([] : va_W)) (As := [.int x2]) (rest := []) (c_X8_isHolder l D cy x2) hCF gX5_tryLend_X8_isHolder_n82 (nw_X5_82 hG.2) k_4 k_5 rfl hd_X8_isHolder.2 ⟨rfl, rfl, Nat.le_of_ble_eq_true rfl, Nat.le_of_ble_eq_true rfl⟩ hG va_P_nil rfl hl.1 rfl (Nat.le_of_ble_eq_true rfl) dX5_tryLend_12 ⟨Nat.le_refl _, Nat.le_refl _⟩ ?_
    refine lv_if_ne (tgt := 20) hx hb dX5_tryLend_15 (by decide) (fun c_2 => ?_) (fun c_2 => ?_)
    · skip
      refine lv_iload_n hx hb dX5_tryLend_20 rfl (lv_at hl 3 rfl) ?_
      refine roSN (wc := ([] : va_W)) (As := [.int x3]) (rest := []) (c_X8_isTerm l D cy x3) hCF gX5_tryLend_X8_isTerm_n92 (nw_X5_92 hG.2) k_4 k_6 rfl hd_X8_isTerm.2 ⟨rfl, rfl, Nat.le_of_ble_eq_true rfl, Nat.le_of_ble_eq_true rfl⟩ hG va_P_nil rfl hl.1 rfl (Nat.le_of_ble_eq_true rfl) dX5_tryLend_21 ⟨Nat.le_refl _, Nat.le_refl _⟩ ?_
      refine lv_if_ne (tgt := 30) hx hb dX5_tryLend_24 (by decide) (fun c_3 => ?_) (fun c_3 => ?_)
      · skip
        refine lv_aload_n hx hb dX5_tryLend_30 rfl (lv_at hl 0 rfl) ?_
        refine va_get (D := D) (ci := 3) (v := .ref (a 1)) (C := RX5) (T := TX5) (N := 9) hx hb hts in_X5 hown hG.1 hP 0 g_St_0 rfl 0 (by decide) k_0 (fun _ h9 => h9) rfl dX5_tryLend_31 ?_
        refine lv_iload_n hx hb dX5_tryLend_34 rfl (lv_at hl 1 rfl) ?_
        refine roVN (wc := (wUn cy (a 1) (a 2) (a 3) (a 4) (a 5) (a 6) (sU st))) (As := [.int x1]) (rest := []) (c_X7_isFree l D cy (a 1) (a 2) (a 3) (a 4) (a 5) (a 6) (sU st) x1 hOK.1) hCF gX5_tryLend_X7_isFree_n95 (nw_X5_95 hG.2) k_1 k_7 k_8 rfl hd_X7_isFree ⟨rfl, rfl, Nat.le_of_ble_eq_true rfl, Nat.le_of_ble_eq_true rfl⟩ hG (hP.sub (ws' := (wUn cy (a 1) (a 2) (a 3) (a 4) (a 5) (a 6) (sU st))) [1, 2, 3, 4, 5, 6] u_St_Un) (ci := 5) rfl rfl g_Un_0 rfl hl.1 rfl (Nat.le_of_ble_eq_true rfl) dX5_tryLend_35 ⟨Nat.le_refl _, Nat.le_refl _⟩ ?_
        refine lv_if_eq (tgt := 54) hx hb dX5_tryLend_38 (by decide) (fun c_4 => ?_) (fun c_4 => ?_)
        · skip
          refine lv_bipush (v := (-3 : Int32)) hx hb dX5_tryLend_54 (by decide) ?_
          exact mu_iret hx hb hr hlocks hP hS dX5_tryLend_56 (by rw [m_X5_tryLend, if_neg c_1, if_neg c_2, if_neg c_3, if_pos c_4]) (by rw [m_X5_tryLend, if_neg c_1, if_neg c_2, if_neg c_3, if_pos c_4])
        · skip
          refine lv_aload_n hx hb dX5_tryLend_41 rfl (lv_at hl 0 rfl) ?_
          refine va_get (D := D) (ci := 3) (v := .ref (a 1)) (C := RX5) (T := TX5) (N := 9) hx hb hts in_X5 hown hG.1 hP 0 g_St_0 rfl 0 (by decide) k_0 (fun _ h9 => h9) rfl dX5_tryLend_42 ?_
          refine va_getN (D := D) (ci := 5) (v := .ref (a 3)) (C := RX7) (T := TX7) (N := 6) hx hb hts in_X7 hown hG.1 hP 1 g_St_1 rfl 1 (by decide) (va_Nw.use rfl (nw_X5_98 hG.2)) (fun _ h9 => h9) rfl dX5_tryLend_45 ?_
          refine lv_iload_n hx hb dX5_tryLend_48 rfl (lv_at hl 1 rfl) ?_
          refine va_iald hx hb hG.1 hP 3 0 (n := 16) (f := (uO (sU st))) g_St_3 rfl (bd_has hOK.1 c_1) dX5_tryLend_49 ?_
          refine lv_iload_n hx hb dX5_tryLend_50 rfl (lv_at hl 2 rfl) ?_
          refine lv_icmp_ne (tgt := 57) hx hb dX5_tryLend_51 (by decide) (fun c_5 => ?_) (fun c_5 => ?_)
          · skip
            refine lv_aload_n hx hb dX5_tryLend_57 rfl (lv_at hl 0 rfl) ?_
            refine va_get (D := D) (ci := 3) (v := .ref (a 1)) (C := RX5) (T := TX5) (N := 9) hx hb hts in_X5 hown hG.1 hP 0 g_St_0 rfl 0 (by decide) k_0 (fun _ h9 => h9) rfl dX5_tryLend_58 ?_
            refine va_getN (D := D) (ci := 5) (v := .ref (a 4)) (C := RX7) (T := TX7) (N := 6) hx hb hts in_X7 hown hG.1 hP 1 g_St_1 rfl 2 (by decide) (va_Nw.use rfl (nw_X5_101 hG.2)) (fun _ h9 => h9) rfl dX5_tryLend_61 ?_
            refine lv_iload_n hx hb dX5_tryLend_64 rfl (lv_at hl 1 rfl) ?_
            refine lv_iload_n hx hb dX5_tryLend_65 rfl (lv_at hl 2 rfl) ?_
            refine va_iast hx hb hG.1 hP hD hS 4 0 (n := 16) (f := (uP (sU st))) g_St_4 rfl (bd_has hOK.1 c_1) dX5_tryLend_66 (fun H locs hP hD hS => ?_)
            have hP : va_P D vwCl (wSt cy a (sU' st (uP' (sU st) (upd (uP (sU st)) x1.toNatClampNeg x2)))) H := va_P_eq hP s_St_4
            have hD : va_D A (wSt cy a (sU' st (uP' (sU st) (upd (uP (sU st)) x1.toNatClampNeg x2)))) := va_D_eq hD s_St_4
            refine lv_aload_n hx hb dX5_tryLend_67 rfl (lv_at hl 0 rfl) ?_
            refine va_get (D := D) (ci := 3) (v := .ref (a 1)) (C := RX5) (T := TX5) (N := 9) hx hb hts in_X5 hown hG.1 hP 0 g_St_0 rfl 0 (by decide) k_0 (fun _ h9 => h9) rfl dX5_tryLend_68 ?_
            refine va_getN (D := D) (ci := 5) (v := .ref (a 6)) (C := RX7) (T := TX7) (N := 6) hx hb hts in_X7 hown hG.1 hP 1 g_St_1 rfl 4 (by decide) (va_Nw.use rfl (nw_X5_104 hG.2)) (fun _ h9 => h9) rfl dX5_tryLend_71 ?_
            refine lv_iload_n hx hb dX5_tryLend_74 rfl (lv_at hl 1 rfl) ?_
            refine lv_aload_n hx hb dX5_tryLend_75 rfl (lv_at hl 0 rfl) ?_
            refine va_get (D := D) (ci := 3) (v := .int (sT st)) (C := RX5) (T := TX5) (N := 9) hx hb hts in_X5 hown hG.1 hP 0 g_St_0 rfl 5 (by decide) k_9 (fun _ h9 => h9) rfl dX5_tryLend_76 ?_
            refine lv_iload_n hx hb dX5_tryLend_79 rfl (lv_at hl 3 rfl) ?_
            refine lv_iadd hx hb dX5_tryLend_80 ?_
            refine va_iast hx hb hG.1 hP hD hS 6 0 (n := 16) (f := (uD (sU st))) g_St_6 rfl (bd_has hOK.1 c_1) dX5_tryLend_81 (fun H locs hP hD hS => ?_)
            have hP : va_P D vwCl (wSt cy a (sU' st (uD' (uP' (sU st) (upd (uP (sU st)) x1.toNatClampNeg x2)) (upd (uD (sU st)) x1.toNatClampNeg ((sT st) + x3))))) H := va_P_eq hP s_St_6
            have hD : va_D A (wSt cy a (sU' st (uD' (uP' (sU st) (upd (uP (sU st)) x1.toNatClampNeg x2)) (upd (uD (sU st)) x1.toNatClampNeg ((sT st) + x3))))) := va_D_eq hD s_St_6
            refine lv_aload_n hx hb dX5_tryLend_82 rfl (lv_at hl 0 rfl) ?_
            refine va_get (D := D) (ci := 3) (v := .ref (a 1)) (C := RX5) (T := TX5) (N := 9) hx hb hts in_X5 hown hG.1 hP 0 g_St_0 rfl 0 (by decide) k_0 (fun _ h9 => h9) rfl dX5_tryLend_83 ?_
            refine va_getN (D := D) (ci := 5) (v := .ref (a 6)) (C := RX7) (T := TX7) (N := 6) hx hb hts in_X7 hown hG.1 hP 1 g_St_1 rfl 4 (by decide) (va_Nw.use rfl (nw_X5_104 hG.2)) (fun _ h9 => h9) rfl dX5_tryLend_86 ?_
            refine lv_iload_n hx hb dX5_tryLend_89 rfl (lv_at hl 1 rfl) ?_
            refine va_iald hx hb hG.1 hP 6 0 (n := 16) (f := (upd (uD (sU st)) x1.toNatClampNeg ((sT st) + x3))) g_St_6 rfl (bd_has hOK.1 c_1) dX5_tryLend_90 ?_
            exact mu_iret hx hb hr hlocks hP hS dX5_tryLend_91 (by rw [m_X5_tryLend, if_neg c_1, if_neg c_2, if_neg c_3, if_neg c_4, if_neg c_5]) (by rw [m_X5_tryLend, if_neg c_1, if_neg c_2, if_neg c_3, if_neg c_4, if_neg c_5])
          · skip
            refine lv_bipush (v := (-3 : Int32)) hx hb dX5_tryLend_54 (by decide) ?_
            exact mu_iret hx hb hr hlocks hP hS dX5_tryLend_56 (by rw [m_X5_tryLend, if_neg c_1, if_neg c_2, if_neg c_3, if_neg c_4, if_pos c_5]) (by rw [m_X5_tryLend, if_neg c_1, if_neg c_2, if_neg c_3, if_neg c_4, if_pos c_5])
      · skip
        refine lv_bipush (v := (-2 : Int32)) hx hb dX5_tryLend_27 (by decide) ?_
        exact mu_iret hx hb hr hlocks hP hS dX5_tryLend_29 (by rw [m_X5_tryLend, if_neg c_1, if_neg c_2, if_pos c_3]) (by rw [m_X5_tryLend, if_neg c_1, if_neg c_2, if_pos c_3])
    · skip
      refine lv_iconst (v := (-1 : Int32)) hx hb dX5_tryLend_18 (by decide) ?_
      exact mu_iret hx hb hr hlocks hP hS dX5_tryLend_19 (by rw [m_X5_tryLend, if_neg c_1, if_pos c_2]) (by rw [m_X5_tryLend, if_neg c_1, if_pos c_2])
def m_X5_tryBring (st : StT) (x1 : Int32) : Int32 × StT := if (m_X7_has (sU st) x1) = (0 : Int32) then ((-1 : Int32), st) else if (m_X7_isFree (sU st) x1) = (0 : Int32) then (m_X5_feesFor st x1 (0 : Int32), sU' (m_X5_pay st ((uP (sU st)) x1.toNatClampNeg) ((uO (sU st)) x1.toNatClampNeg) (m_X5_feesFor st x1 (0 : Int32))) (m_X7_giveTo (sU (m_X5_pay st ((uP (sU st)) x1.toNatClampNeg) ((uO (sU st)) x1.toNatClampNeg) (m_X5_feesFor st x1 (0 : Int32)))) x1 ((uO (sU (m_X5_pay st ((uP (sU st)) x1.toNatClampNeg) ((uO (sU st)) x1.toNatClampNeg) (m_X5_feesFor st x1 (0 : Int32))))) x1.toNatClampNeg))) else ((-3 : Int32), st)
theorem hd_X5_tryBring : yX5_tryBring.cls = RX5 ∧ yX5_tryBring.cls ≠ "java/lang/invoke/MethodHandle" ∧ yX5_tryBring.cls ≠ "java/lang/invoke/VarHandle" ∧ (parseMethodDescriptor yX5_tryBring.desc).map (fun d => d.parameters.length) = some 1 := by decide +kernel
set_option maxHeartbeats 8000000 in
set_option maxRecDepth 20000 in
theorem c_X5_tryBring (l : Launch) (D : va_G) (cy : Nat → ClassId) (a : Nat → Nat) (st : StT) (x1 : Int32) (hOK : stOK st) : MU l D cy yX5_tryBring wsX5_tryBring ({ frames := 3, cells := 0, slots := 0, locals := 65 } : Room) (wSt cy a st) (wSt cy a (m_X5_tryBring st x1).2) [.ref (a 0), .int x1] (m_X5_tryBring st x1).1 := by
  refine MU.body (by decide) rfl (Nat.le_of_ble_eq_true rfl) ?_
  intro p e s m below meth c hx hb hml hr hts hown hlocks hP hG ls hl A hD hA hS
  have hl : lv_has ls 3 [(0, .ref (a 0)), (1, .int x1)] := hl
  have hCF : CallFix p m c cX5_tryBring 3 s ([.ref (a 0), .int x1] : List Value).toArray wsX5_tryBring RX5 := ⟨hx, hb, hml, hown, hts⟩
  have in_X5 : ∀ w ∈ u_ws RX5 TX5 9, w ∈ wsX5_tryBring := fun _ h => List.mem_cons_of_mem _ (List.mem_append_left _ (List.mem_append_right _ h))
  have in_X7 : ∀ w ∈ u_ws RX7 TX7 6, w ∈ wsX5_tryBring := fun _ h => List.mem_cons_of_mem _ (List.mem_append_right _ h)
  have k_0 := hts (Cond.fieldLink RX5 12 "SparePool$State" "units" "LSparePool$Units;") (List.mem_of_getElem? (i := 1) rfl)
  have k_1 := hts (Cond.initialized RX7) (List.mem_of_getElem? (i := 3) rfl)
  have k_2 := hts (Cond.instanceMethod yX7_has) (List.mem_of_getElem? (i := 2) rfl)
  have k_3 := hts (Cond.selects RX7 yX7_has yX7_has) (List.mem_of_getElem? (i := 4) rfl)
  have k_4 := hts (Cond.instanceMethod yX7_isFree) (List.mem_of_getElem? (i := 7) rfl)
  have k_5 := hts (Cond.selects RX7 yX7_isFree yX7_isFree) (List.mem_of_getElem? (i := 8) rfl)
  have k_6 := hts (Cond.instanceMethod yX7_giveTo) (List.mem_of_getElem? (i := 37) rfl)
  have k_7 := hts (Cond.selects RX7 yX7_giveTo yX7_giveTo) (List.mem_of_getElem? (i := 38) rfl)
  have hP : va_P D vwCl (wSt cy a st) s.heap := hP
  refine lv_aload_n hx hb dX5_tryBring_0 rfl (lv_at hl 0 rfl) ?_
  refine va_get (D := D) (ci := 3) (v := .ref (a 1)) (C := RX5) (T := TX5) (N := 9) hx hb hts in_X5 hown hG.1 hP 0 g_St_0 rfl 0 (by decide) k_0 (fun _ h9 => h9) rfl dX5_tryBring_1 ?_
  refine lv_iload_n hx hb dX5_tryBring_4 rfl (lv_at hl 1 rfl) ?_
  refine roVN (wc := (wUn cy (a 1) (a 2) (a 3) (a 4) (a 5) (a 6) (sU st))) (As := [.int x1]) (rest := []) (c_X7_has l D cy (a 1) (a 2) (a 3) (a 4) (a 5) (a 6) (sU st) x1 hOK.1) hCF gX5_tryBring_X7_has_n89 (nw_X5_89 hG.2) k_1 k_2 k_3 rfl hd_X7_has ⟨rfl, rfl, Nat.le_of_ble_eq_true rfl, Nat.le_of_ble_eq_true rfl⟩ hG (hP.sub (ws' := (wUn cy (a 1) (a 2) (a 3) (a 4) (a 5) (a 6) (sU st))) [1, 2, 3, 4, 5, 6] u_St_Un) (ci := 5) rfl rfl g_Un_0 rfl hl.1 rfl (Nat.le_of_ble_eq_true rfl) dX5_tryBring_5 ⟨Nat.le_refl _, Nat.le_refl _⟩ ?_
  refine lv_if_ne (tgt := 13) hx hb dX5_tryBring_8 (by decide) (fun c_1 => ?_) (fun c_1 => ?_)
  · skip
    refine lv_aload_n hx hb dX5_tryBring_13 rfl (lv_at hl 0 rfl) ?_
    refine va_get (D := D) (ci := 3) (v := .ref (a 1)) (C := RX5) (T := TX5) (N := 9) hx hb hts in_X5 hown hG.1 hP 0 g_St_0 rfl 0 (by decide) k_0 (fun _ h9 => h9) rfl dX5_tryBring_14 ?_
    refine lv_iload_n hx hb dX5_tryBring_17 rfl (lv_at hl 1 rfl) ?_
    refine roVN (wc := (wUn cy (a 1) (a 2) (a 3) (a 4) (a 5) (a 6) (sU st))) (As := [.int x1]) (rest := []) (c_X7_isFree l D cy (a 1) (a 2) (a 3) (a 4) (a 5) (a 6) (sU st) x1 hOK.1) hCF gX5_tryBring_X7_isFree_n95 (nw_X5_95 hG.2) k_1 k_4 k_5 rfl hd_X7_isFree ⟨rfl, rfl, Nat.le_of_ble_eq_true rfl, Nat.le_of_ble_eq_true rfl⟩ hG (hP.sub (ws' := (wUn cy (a 1) (a 2) (a 3) (a 4) (a 5) (a 6) (sU st))) [1, 2, 3, 4, 5, 6] u_St_Un) (ci := 5) rfl rfl g_Un_0 rfl hl.1 rfl (Nat.le_of_ble_eq_true rfl) dX5_tryBring_18 ⟨Nat.le_refl _, Nat.le_refl _⟩ ?_
    refine lv_if_eq (tgt := 27) hx hb dX5_tryBring_21 (by decide) (fun c_2 => ?_) (fun c_2 => ?_)
    · skip
      refine lv_aload_n hx hb dX5_tryBring_27 rfl (lv_at hl 0 rfl) ?_
      refine lv_iload_n hx hb dX5_tryBring_28 rfl (lv_at hl 1 rfl) ?_
      refine lv_iconst (v := (0 : Int32)) hx hb dX5_tryBring_29 (by decide) ?_
      refine roV (wc := (wSt cy a st)) (As := [.int x1, .int (0 : Int32)]) (rest := []) (c_X5_feesFor l D cy a st x1 (0 : Int32) hOK) hCF gX5_tryBring_X5_feesFor rfl hd_X5_feesFor ⟨rfl, rfl, Nat.le_of_ble_eq_true rfl, Nat.le_of_ble_eq_true rfl⟩ hG hP (ci := 3) rfl rfl g_St_0 rfl hl.1 rfl (Nat.le_of_ble_eq_true rfl) dX5_tryBring_30 ⟨Nat.le_refl _, Nat.le_refl _⟩ ?_
      refine lv_istore_n (lv' := [(2, .int (m_X5_feesFor st x1 (0 : Int32))), (0, .ref (a 0)), (1, .int x1)]) hx hb dX5_tryBring_33 rfl hl (by decide) rfl (fun ls hl => ?_)
      refine lv_aload_n hx hb dX5_tryBring_34 rfl (lv_at hl 1 rfl) ?_
      refine lv_aload_n hx hb dX5_tryBring_35 rfl (lv_at hl 1 rfl) ?_
      refine va_get (D := D) (ci := 3) (v := .ref (a 1)) (C := RX5) (T := TX5) (N := 9) hx hb hts in_X5 hown hG.1 hP 0 g_St_0 rfl 0 (by decide) k_0 (fun _ h9 => h9) rfl dX5_tryBring_36 ?_
      refine va_getN (D := D) (ci := 5) (v := .ref (a 4)) (C := RX7) (T := TX7) (N := 6) hx hb hts in_X7 hown hG.1 hP 1 g_St_1 rfl 2 (by decide) (va_Nw.use rfl (nw_X5_101 hG.2)) (fun _ h9 => h9) rfl dX5_tryBring_39 ?_
      refine lv_iload_n hx hb dX5_tryBring_42 rfl (lv_at hl 2 rfl) ?_
      refine va_iald hx hb hG.1 hP 4 0 (n := 16) (f := (uP (sU st))) g_St_4 rfl (bd_has hOK.1 c_1) dX5_tryBring_43 ?_
      refine lv_aload_n hx hb dX5_tryBring_44 rfl (lv_at hl 1 rfl) ?_
      refine va_get (D := D) (ci := 3) (v := .ref (a 1)) (C := RX5) (T := TX5) (N := 9) hx hb hts in_X5 hown hG.1 hP 0 g_St_0 rfl 0 (by decide) k_0 (fun _ h9 => h9) rfl dX5_tryBring_45 ?_
      refine va_getN (D := D) (ci := 5) (v := .ref (a 3)) (C := RX7) (T := TX7) (N := 6) hx hb hts in_X7 hown hG.1 hP 1 g_St_1 rfl 1 (by decide) (va_Nw.use rfl (nw_X5_98 hG.2)) (fun _ h9 => h9) rfl dX5_tryBring_48 ?_
      refine lv_iload_n hx hb dX5_tryBring_51 rfl (lv_at hl 2 rfl) ?_
      refine va_iald hx hb hG.1 hP 3 0 (n := 16) (f := (uO (sU st))) g_St_3 rfl (bd_has hOK.1 c_1) dX5_tryBring_52 ?_
      refine lv_iload_n hx hb dX5_tryBring_53 rfl (lv_at hl 0 rfl) ?_
      refine mvV (A0 := A) (wc := (wSt cy a st)) (As := [.int ((uP (sU st)) x1.toNatClampNeg), .int ((uO (sU st)) x1.toNatClampNeg), .int (m_X5_feesFor st x1 (0 : Int32))]) (rest := []) (c_X5_pay l D cy a st ((uP (sU st)) x1.toNatClampNeg) ((uO (sU st)) x1.toNatClampNeg) (m_X5_feesFor st x1 (0 : Int32))) hCF gX5_tryBring_X5_pay rfl hd_X5_pay ⟨rfl, rfl, Nat.le_of_ble_eq_true rfl, Nat.le_of_ble_eq_true rfl⟩ hG hP hD hS hA [0, 1, 2, 3, 4, 5, 6, 7, 8, 9, 10, 11, 12, 13, 14] rfl c_St_St h_St (ci := 3) rfl rfl g_St_0 rfl hl.1 rfl (Nat.le_of_ble_eq_true rfl) dX5_tryBring_54 ⟨Nat.le_refl _, Nat.le_refl _⟩ (fun H locs hP hD hS => ?_)
      have hP : va_P D vwCl (wSt cy a (m_X5_pay st ((uP (sU st)) x1.toNatClampNeg) ((uO (sU st)) x1.toNatClampNeg) (m_X5_feesFor st x1 (0 : Int32)))) H := va_P_eq hP r_St_St
      have hD : va_D A (wSt cy a (m_X5_pay st ((uP (sU st)) x1.toNatClampNeg) ((uO (sU st)) x1.toNatClampNeg) (m_X5_feesFor st x1 (0 : Int32)))) := va_D_eq hD r_St_St
      refine lv_aload_n hx hb dX5_tryBring_57 rfl (lv_at hl 1 rfl) ?_
      refine va_get (D := D) (ci := 3) (v := .ref (a 1)) (C := RX5) (T := TX5) (N := 9) hx hb hts in_X5 hown hG.1 hP 0 g_St_0 rfl 0 (by decide) k_0 (fun _ h9 => h9) rfl dX5_tryBring_58 ?_
      refine lv_iload_n hx hb dX5_tryBring_61 rfl (lv_at hl 2 rfl) ?_
      refine lv_aload_n hx hb dX5_tryBring_62 rfl (lv_at hl 1 rfl) ?_
      refine va_get (D := D) (ci := 3) (v := .ref (a 1)) (C := RX5) (T := TX5) (N := 9) hx hb hts in_X5 hown hG.1 hP 0 g_St_0 rfl 0 (by decide) k_0 (fun _ h9 => h9) rfl dX5_tryBring_63 ?_
      refine va_getN (D := D) (ci := 5) (v := .ref (a 3)) (C := RX7) (T := TX7) (N := 6) hx hb hts in_X7 hown hG.1 hP 1 g_St_1 rfl 1 (by decide) (va_Nw.use rfl (nw_X5_98 hG.2)) (fun _ h9 => h9) rfl dX5_tryBring_66 ?_
      refine lv_iload_n hx hb dX5_tryBring_69 rfl (lv_at hl 2 rfl) ?_
      refine va_iald hx hb hG.1 hP 3 0 (n := 16) (f := (uO (sU (m_X5_pay st ((uP (sU st)) x1.toNatClampNeg) ((uO (sU st)) x1.toNatClampNeg) (m_X5_feesFor st x1 (0 : Int32)))))) g_St_3 rfl (bd_has hOK.1 c_1) dX5_tryBring_70 ?_
      refine mvVN (A0 := A) (wc := (wUn cy (a 1) (a 2) (a 3) (a 4) (a 5) (a 6) (sU (m_X5_pay st ((uP (sU st)) x1.toNatClampNeg) ((uO (sU st)) x1.toNatClampNeg) (m_X5_feesFor st x1 (0 : Int32)))))) (As := [.int x1, .int ((uO (sU (m_X5_pay st ((uP (sU st)) x1.toNatClampNeg) ((uO (sU st)) x1.toNatClampNeg) (m_X5_feesFor st x1 (0 : Int32))))) x1.toNatClampNeg)]) (rest := []) (c_X7_giveTo l D cy (a 1) (a 2) (a 3) (a 4) (a 5) (a 6) (sU (m_X5_pay st ((uP (sU st)) x1.toNatClampNeg) ((uO (sU st)) x1.toNatClampNeg) (m_X5_feesFor st x1 (0 : Int32)))) x1 ((uO (sU (m_X5_pay st ((uP (sU st)) x1.toNatClampNeg) ((uO (sU st)) x1.toNatClampNeg) (m_X5_feesFor st x1 (0 : Int32))))) x1.toNatClampNeg) (ok_pay hOK).1) hCF gX5_tryBring_X7_giveTo_n115 (nw_X5_115 hG.2) k_1 k_6 k_7 rfl hd_X7_giveTo ⟨rfl, rfl, Nat.le_of_ble_eq_true rfl, Nat.le_of_ble_eq_true rfl⟩ hG hP hD hS hA [1, 2, 3, 4, 5, 6] rfl c_St_Un h_Un (ci := 5) rfl rfl g_Un_0 rfl hl.1 rfl (Nat.le_of_ble_eq_true rfl) dX5_tryBring_71 ⟨Nat.le_refl _, Nat.le_refl _⟩ (fun H locs hP hD hS => ?_)
      have hP : va_P D vwCl (wSt cy a (sU' (m_X5_pay st ((uP (sU st)) x1.toNatClampNeg) ((uO (sU st)) x1.toNatClampNeg) (m_X5_feesFor st x1 (0 : Int32))) (m_X7_giveTo (sU (m_X5_pay st ((uP (sU st)) x1.toNatClampNeg) ((uO (sU st)) x1.toNatClampNeg) (m_X5_feesFor st x1 (0 : Int32)))) x1 ((uO (sU (m_X5_pay st ((uP (sU st)) x1.toNatClampNeg) ((uO (sU st)) x1.toNatClampNeg) (m_X5_feesFor st x1 (0 : Int32))))) x1.toNatClampNeg)))) H := va_P_eq hP r_St_Un
      have hD : va_D A (wSt cy a (sU' (m_X5_pay st ((uP (sU st)) x1.toNatClampNeg) ((uO (sU st)) x1.toNatClampNeg) (m_X5_feesFor st x1 (0 : Int32))) (m_X7_giveTo (sU (m_X5_pay st ((uP (sU st)) x1.toNatClampNeg) ((uO (sU st)) x1.toNatClampNeg) (m_X5_feesFor st x1 (0 : Int32)))) x1 ((uO (sU (m_X5_pay st ((uP (sU st)) x1.toNatClampNeg) ((uO (sU st)) x1.toNatClampNeg) (m_X5_feesFor st x1 (0 : Int32))))) x1.toNatClampNeg)))) := va_D_eq hD r_St_Un
      refine lv_iload_n hx hb dX5_tryBring_74 rfl (lv_at hl 0 rfl) ?_
      exact mu_iret hx hb hr hlocks hP hS dX5_tryBring_75 (by rw [m_X5_tryBring, if_neg c_1, if_pos c_2]) (by rw [m_X5_tryBring, if_neg c_1, if_pos c_2])
    · skip
      refine lv_bipush (v := (-3 : Int32)) hx hb dX5_tryBring_24 (by decide) ?_
      exact mu_iret hx hb hr hlocks hP hS dX5_tryBring_26 (by rw [m_X5_tryBring, if_neg c_1, if_neg c_2]) (by rw [m_X5_tryBring, if_neg c_1, if_neg c_2])
  · skip
    refine lv_iconst (v := (-1 : Int32)) hx hb dX5_tryBring_11 (by decide) ?_
    exact mu_iret hx hb hr hlocks hP hS dX5_tryBring_12 (by rw [m_X5_tryBring, if_pos c_1]) (by rw [m_X5_tryBring, if_pos c_1])
