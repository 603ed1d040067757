theorem slot01 {x : Int32} (h : ¬ m_X8_isSlot x = 0) : x = 0 ∨ x = 1 := by
  have g := vp_in_iff.mp (bd_isSlot h)
  have e0 := i32_0
  have e1 := i32_1
  by_cases c : x.toInt = 0
  · exact Or.inl (Int32.toInt_inj.mp (by omega))
  · exact Or.inr (Int32.toInt_inj.mp (by omega))
def m_X8_save (z : SpT) (x1 : Int32) : Nat × Int32 × SpT := if m_X8_isSlot x1 = 0 then (1, 0, z) else if x1 = 0 then (0, uN (sU (pN z)), pV' (pA' z (pN z)) (upd (pV z) x1.toNatClampNeg 1)) else (0, uN (sU (pN z)), pV' (pB' z (pN z)) (upd (pV z) x1.toNatClampNeg 1))
set_option maxHeartbeats 4000000 in
set_option maxRecDepth 20000 in
theorem c_X8_save (l : Launch) (hl0 : l.stackTraces = false) (D : va_G) (cy : Nat → ClassId) (t : FxA) (xa sa sb tr na : Nat → Nat) (ka : Nat → Nat → Nat) (z : SpT) (x1 : Int32) : EX l D cy t yX8_save wsX8_save ({ frames := 6, cells := 1, slots := 6, locals := 140 } : Room) (wSp cy xa sa sb tr na ka z) (wSp cy xa sa sb tr na ka (m_X8_save z x1).2.2) [.ref (xa 0), .int x1] 1 6 (m_X8_save z x1).1 (m_X8_save z x1).2.1 := by
  refine EX.body (by decide) rfl (Nat.le_of_ble_eq_true rfl) ?_
  intro p e s m below meth c hx hb hml hnx hr hts hown hlocks hP hG ls hl A hD hA hS hF
  have hl : lv_has ls 2 [(0, .ref (xa 0)), (1, .int x1)] := hl
  have hCF : CallFix p m c cX8_save 2 s ([.ref (xa 0), .int x1] : List Value).toArray wsX8_save RX8 := ⟨hx, hb, hml, hown, hts⟩
  have in_X8 : ∀ w ∈ u_ws RX8 TX8 6, w ∈ wsX8_save := fun _ h => List.mem_cons_of_mem _ (List.mem_append_left _ (List.mem_append_left _ (List.mem_append_left _ (List.mem_append_left _ (List.mem_append_left _ (List.mem_append_right _ h))))))
  have in_X5 : ∀ w ∈ u_ws RX5 TX5 9, w ∈ wsX8_save := fun _ h => List.mem_cons_of_mem _ (List.mem_append_left _ (List.mem_append_left _ (List.mem_append_left _ (List.mem_append_left _ (List.mem_append_right _ h)))))
  have in_X7 : ∀ w ∈ u_ws RX7 TX7 6, w ∈ wsX8_save := fun _ h => List.mem_cons_of_mem _ (List.mem_append_left _ (List.mem_append_left _ (List.mem_append_left _ (List.mem_append_right _ h))))
  have ks := hts (Cond.fieldLink RX8 33 "SparePool" "slots" "[LSparePool$State;") (List.mem_of_getElem? (i := 3) rfl)
  have kv := hts (Cond.fieldLink RX8 37 "SparePool" "saved" "[Z") (List.mem_of_getElem? (i := 5) rfl)
  have kn := hts (Cond.fieldLink RX8 19 "SparePool" "now" "LSparePool$State;") (List.mem_of_getElem? (i := 4) rfl)
  have k1 := hts (Cond.initialized RX5) (List.mem_of_getElem? (i := 11) rfl)
  have k2 := hts (Cond.instanceMethod yX5_copyFrom) (List.mem_of_getElem? (i := 10) rfl)
  have k3 := hts (Cond.selects RX5 yX5_copyFrom yX5_copyFrom) (List.mem_of_getElem? (i := 12) rfl)
  refine lv_iload_n hx hb dX8_save_0 rfl (lv_at hl 1 rfl) ?_
  refine roS (wc := ([] : va_W)) (As := [.int x1]) (rest := []) (c_X8_isSlot l D cy x1) hCF gX8_save_X8_isSlot rfl hd_X8_isSlot ⟨rfl, rfl, Nat.le_of_ble_eq_true rfl, Nat.le_of_ble_eq_true rfl⟩ hG va_P_nil rfl hl.1 rfl (Nat.le_of_ble_eq_true rfl) dX8_save_1 ⟨Nat.le_of_ble_eq_true rfl, Nat.le_of_ble_eq_true rfl⟩ ?_
  refine lv_if_ne (tgt := 15) hx hb dX8_save_4 (by decide) (fun c_1 => ?_) (fun c_1 => ?_)
  · rcases slot01 c_1 with rfl | rfl
    · refine lv_aload_n hx hb dX8_save_15 rfl (lv_at hl 0 rfl) ?_
      refine va_get (D := D) (ci := 6) (v := .ref (xa 1)) (C := RX8) (T := TX8) (N := 6) hx hb hts in_X8 hown hG.1 hP 0 g_Sp_0 rfl 4 (by decide) ks (fun _ h9 => h9) rfl dX8_save_16 ?_
      refine lv_iload_n hx hb dX8_save_19 rfl (lv_at hl 1 rfl) ?_
      refine va_aldq (i := (0 : Int32)) hx hb hG.1 hP 1 2 g_Sp_1 rfl (bd_isSlot c_1) dX8_save_20 ?_
      refine lv_aload_n hx hb dX8_save_21 rfl (lv_at hl 0 rfl) ?_
      refine va_get (D := D) (ci := 6) (v := .ref (na 0)) (C := RX8) (T := TX8) (N := 6) hx hb hts in_X8 hown hG.1 hP 0 g_Sp_0 rfl 1 (by decide) kn (fun _ h9 => h9) rfl dX8_save_22 ?_
      refine vwVN (ci := 3) (A0 := A) (As := [.ref (na 0)]) (rest := []) (W1 := wSp cy xa sa sb tr na ka z) (W2 := wSp cy xa sa sb tr na ka (pA' z (pN z))) ((c_X5_copyTo l D cy sa na (pA z) (pN z)).ctx q_cpAN q_cpAN) hCF gX8_save_X5_copyFrom_n276 (nw_X8_276 hG.2) k1 k2 k3 rfl hd_X5_copyFrom ⟨rfl, rfl, Nat.le_of_ble_eq_true rfl, Nat.le_of_ble_eq_true rfl⟩ hG hP hD hS hA h_Sp rfl rfl (List.mem_of_getElem? g_Sp_5) rfl hl.1 rfl (Nat.le_of_ble_eq_true rfl) dX8_save_25 ⟨Nat.le_of_ble_eq_true rfl, Nat.le_of_ble_eq_true rfl⟩ (fun H locs hP hD hS => ?_)
      refine lv_aload_n hx hb dX8_save_28 rfl (lv_at hl 0 rfl) ?_
      refine va_get (D := D) (ci := 6) (v := .ref (xa 2)) (C := RX8) (T := TX8) (N := 6) hx hb hts in_X8 hown hG.1 hP 0 g_Sp_0 rfl 5 (by decide) kv (fun _ h9 => h9) rfl dX8_save_29 ?_
      refine lv_iload_n hx hb dX8_save_32 rfl (lv_at hl 1 rfl) ?_
      refine lv_iconst (v := (1 : Int32)) hx hb dX8_save_33 (by decide) ?_
      refine va_zast hx hb hG.1 hP hD hS 2 1 (n := 2) (f := pV z) g_Sp_2 rfl (bd_isSlot c_1) dX8_save_34 (fun H locs hP hD hS => ?_)
      have hP : va_P D vwCl (wSp cy xa sa sb tr na ka (pV' (pA' z (pN z)) (upd (pV z) (0 : Int32).toNatClampNeg 1))) H := va_P_eq hP s_Sp_2
      have hD : va_D A (wSp cy xa sa sb tr na ka (pV' (pA' z (pN z)) (upd (pV z) (0 : Int32).toNatClampNeg 1))) := va_D_eq hD s_Sp_2
      refine lv_aload_n hx hb dX8_save_35 rfl (lv_at hl 0 rfl) ?_
      refine va_get (D := D) (ci := 6) (v := .ref (na 0)) (C := RX8) (T := TX8) (N := 6) hx hb hts in_X8 hown hG.1 hP 0 g_Sp_0 rfl 1 (by decide) kn (fun _ h9 => h9) rfl dX8_save_36 ?_
      refine va_getN (D := D) (ci := 3) (v := .ref (na 1)) (C := RX5) (T := TX5) (N := 9) hx hb hts in_X5 hown hG.1 hP 50 g_Sp_50 rfl 0 (by decide) (va_Nw.use rfl (nw_X8_109 hG.2)) (fun _ h9 => h9) rfl dX8_save_39 ?_
      refine va_getN (D := D) (ci := 5) (v := .int (uN (sU (pN (pV' (pA' z (pN z)) (upd (pV z) (0 : Int32).toNatClampNeg 1)))))) (C := RX7) (T := TX7) (N := 6) hx hb hts in_X7 hown hG.1 hP 51 g_Sp_51 rfl 5 (by decide) (va_Nw.use rfl (nw_X8_113 hG.2)) (fun _ h9 => h9) rfl dX8_save_42 ?_
      exact ex_iret hx hb hr hlocks hP hS (Nat.le_of_ble_eq_true rfl) (Nat.le_of_ble_eq_true rfl) dX8_save_45 (by rw [m_X8_save, if_neg c_1, if_pos (by decide)]) (by rw [m_X8_save, if_neg c_1, if_pos (by decide)]; rfl) (by rw [m_X8_save, if_neg c_1, if_pos (by decide)])
    · refine lv_aload_n hx hb dX8_save_15 rfl (lv_at hl 0 rfl) ?_
      refine va_get (D := D) (ci := 6) (v := .ref (xa 1)) (C := RX8) (T := TX8) (N := 6) hx hb hts in_X8 hown hG.1 hP 0 g_Sp_0 rfl 4 (by decide) ks (fun _ h9 => h9) rfl dX8_save_16 ?_
      refine lv_iload_n hx hb dX8_save_19 rfl (lv_at hl 1 rfl) ?_
      refine va_aldq (i := (1 : Int32)) hx hb hG.1 hP 1 2 g_Sp_1 rfl (bd_isSlot c_1) dX8_save_20 ?_
      refine lv_aload_n hx hb dX8_save_21 rfl (lv_at hl 0 rfl) ?_
      refine va_get (D := D) (ci := 6) (v := .ref (na 0)) (C := RX8) (T := TX8) (N := 6) hx hb hts in_X8 hown hG.1 hP 0 g_Sp_0 rfl 1 (by decide) kn (fun _ h9 => h9) rfl dX8_save_22 ?_
      refine vwVN (ci := 3) (A0 := A) (As := [.ref (na 0)]) (rest := []) (W1 := wSp cy xa sa sb tr na ka z) (W2 := wSp cy xa sa sb tr na ka (pB' z (pN z))) ((c_X5_copyTo l D cy sb na (pB z) (pN z)).ctx q_cpBN q_cpBN) hCF gX8_save_X5_copyFrom_n276 (nw_X8_276 hG.2) k1 k2 k3 rfl hd_X5_copyFrom ⟨rfl, rfl, Nat.le_of_ble_eq_true rfl, Nat.le_of_ble_eq_true rfl⟩ hG hP hD hS hA h_Sp rfl rfl (List.mem_of_getElem? g_Sp_20) rfl hl.1 rfl (Nat.le_of_ble_eq_true rfl) dX8_save_25 ⟨Nat.le_of_ble_eq_true rfl, Nat.le_of_ble_eq_true rfl⟩ (fun H locs hP hD hS => ?_)
      refine lv_aload_n hx hb dX8_save_28 rfl (lv_at hl 0 rfl) ?_
      refine va_get (D := D) (ci := 6) (v := .ref (xa 2)) (C := RX8) (T := TX8) (N := 6) hx hb hts in_X8 hown hG.1 hP 0 g_Sp_0 rfl 5 (by decide) kv (fun _ h9 => h9) rfl dX8_save_29 ?_
      refine lv_iload_n hx hb dX8_save_32 rfl (lv_at hl 1 rfl) ?_
      refine lv_iconst (v := (1 : Int32)) hx hb dX8_save_33 (by decide) ?_
      refine va_zast hx hb hG.1 hP hD hS 2 1 (n := 2) (f := pV z) g_Sp_2 rfl (bd_isSlot c_1) dX8_save_34 (fun H locs hP hD hS => ?_)
      have hP : va_P D vwCl (wSp cy xa sa sb tr na ka (pV' (pB' z (pN z)) (upd (pV z) (1 : Int32).toNatClampNeg 1))) H := va_P_eq hP s_Sp_2
      have hD : va_D A (wSp cy xa sa sb tr na ka (pV' (pB' z (pN z)) (upd (pV z) (1 : Int32).toNatClampNeg 1))) := va_D_eq hD s_Sp_2
      refine lv_aload_n hx hb dX8_save_35 rfl (lv_at hl 0 rfl) ?_
      refine va_get (D := D) (ci := 6) (v := .ref (na 0)) (C := RX8) (T := TX8) (N := 6) hx hb hts in_X8 hown hG.1 hP 0 g_Sp_0 rfl 1 (by decide) kn (fun _ h9 => h9) rfl dX8_save_36 ?_
      refine va_getN (D := D) (ci := 3) (v := .ref (na 1)) (C := RX5) (T := TX5) (N := 9) hx hb hts in_X5 hown hG.1 hP 50 g_Sp_50 rfl 0 (by decide) (va_Nw.use rfl (nw_X8_109 hG.2)) (fun _ h9 => h9) rfl dX8_save_39 ?_
      refine va_getN (D := D) (ci := 5) (v := .int (uN (sU (pN (pV' (pB' z (pN z)) (upd (pV z) (1 : Int32).toNatClampNeg 1)))))) (C := RX7) (T := TX7) (N := 6) hx hb hts in_X7 hown hG.1 hP 51 g_Sp_51 rfl 5 (by decide) (va_Nw.use rfl (nw_X8_113 hG.2)) (fun _ h9 => h9) rfl dX8_save_42 ?_
      exact ex_iret hx hb hr hlocks hP hS (Nat.le_of_ble_eq_true rfl) (Nat.le_of_ble_eq_true rfl) dX8_save_45 (by rw [m_X8_save, if_neg c_1, if_neg (by decide)]) (by rw [m_X8_save, if_neg c_1, if_neg (by decide)]; rfl) (by rw [m_X8_save, if_neg c_1, if_neg (by decide)])
  · exact ex_thr (i := 1) (ik := 156) (ic := 158) hx hb hl0 hown (hts (Cond.classLink RX8 156 "java/lang/IndexOutOfBoundsException") (List.mem_of_getElem? (i := 1) rfl)) (hts (Cond.initialized "java/lang/IndexOutOfBoundsException") (List.mem_of_getElem? (i := 2) rfl)) (by decide) (fun w h => hts w (List.mem_cons_of_mem _ (List.mem_append_right _ h))) (by decide +kernel) (by decide +kernel) hF hS hP (hl.1.trans hml.symm) dX8_save_7 dX8_save_10 dX8_save_11 dX8_save_14 hnx (Nat.le_of_ble_eq_true rfl) (Nat.le_of_ble_eq_true rfl) (Nat.le_of_ble_eq_true rfl) (Nat.le_of_ble_eq_true rfl) hlocks (Nat.le_of_ble_eq_true rfl) (Nat.le_of_ble_eq_true rfl) (by rw [m_X8_save, if_pos c_1]) (by decide) (by rw [m_X8_save, if_pos c_1])
def m_X8_restore (z : SpT) (x1 : Int32) : Nat × Int32 × SpT := if m_X8_isSlot x1 = 0 then (1, 0, z) else if pV z x1.toNatClampNeg = 0 then (3, 0, z) else if x1 = 0 then (0, uN (sU (pA z)), pH' (pN' z (pA z)) (hiForget (pH z))) else (0, uN (sU (pB z)), pH' (pN' z (pB z)) (hiForget (pH z)))
set_option maxHeartbeats 4000000 in
set_option maxRecDepth 20000 in
theorem c_X8_restore (l : Launch) (hl0 : l.stackTraces = false) (D : va_G) (cy : Nat → ClassId) (t : FxA) (xa sa sb tr na : Nat → Nat) (ka : Nat → Nat → Nat) (z : SpT) (x1 : Int32) : EX l D cy t yX8_restore wsX8_restore ({ frames := 6, cells := 1, slots := 6, locals := 140 } : Room) (wSp cy xa sa sb tr na ka z) (wSp cy xa sa sb tr na ka (m_X8_restore z x1).2.2) [.ref (xa 0), .int x1] 1 6 (m_X8_restore z x1).1 (m_X8_restore z x1).2.1 := by
  refine EX.body (by decide) rfl (Nat.le_of_ble_eq_true rfl) ?_
  intro p e s m below meth c hx hb hml hnx hr hts hown hlocks hP hG ls hl A hD hA hS hF
  have hl : lv_has ls 2 [(0, .ref (xa 0)), (1, .int x1)] := hl
  have hCF : CallFix p m c cX8_restore 2 s ([.ref (xa 0), .int x1] : List Value).toArray wsX8_restore RX8 := ⟨hx, hb, hml, hown, hts⟩
  have in_X8 : ∀ w ∈ u_ws RX8 TX8 6, w ∈ wsX8_restore := fun _ h => List.mem_cons_of_mem _ (List.mem_append_left _ (List.mem_append_left _ (List.mem_append_left _ (List.mem_append_left _ (List.mem_append_left _ (List.mem_append_left _ (List.mem_append_left _ (List.mem_append_right _ h))))))))
  have in_X5 : ∀ w ∈ u_ws RX5 TX5 9, w ∈ wsX8_restore := fun _ h => List.mem_cons_of_mem _ (List.mem_append_left _ (List.mem_append_left _ (List.mem_append_left _ (List.mem_append_left _ (List.mem_append_left _ (List.mem_append_left _ (List.mem_append_right _ h)))))))
  have in_X7 : ∀ w ∈ u_ws RX7 TX7 6, w ∈ wsX8_restore := fun _ h => List.mem_cons_of_mem _ (List.mem_append_left _ (List.mem_append_left _ (List.mem_append_left _ (List.mem_append_left _ (List.mem_append_left _ (List.mem_append_right _ h))))))
  have ks := hts (Cond.fieldLink RX8 33 "SparePool" "slots" "[LSparePool$State;") (List.mem_of_getElem? (i := 7) rfl)
  have kv := hts (Cond.fieldLink RX8 37 "SparePool" "saved" "[Z") (List.mem_of_getElem? (i := 5) rfl)
  have kh := hts (Cond.fieldLink RX8 29 "SparePool" "history" "LSparePool$History;") (List.mem_of_getElem? (i := 8) rfl)
  have kn := hts (Cond.fieldLink RX8 19 "SparePool" "now" "LSparePool$State;") (List.mem_of_getElem? (i := 6) rfl)
  have k1 := hts (Cond.initialized RX5) (List.mem_of_getElem? (i := 14) rfl)
  have k2 := hts (Cond.instanceMethod yX5_copyFrom) (List.mem_of_getElem? (i := 13) rfl)
  have k3 := hts (Cond.selects RX5 yX5_copyFrom yX5_copyFrom) (List.mem_of_getElem? (i := 15) rfl)
  have k4 := hts (Cond.initialized RX2) (List.mem_of_getElem? (i := 56) rfl)
  have k5 := hts (Cond.instanceMethod yX2_forgetAll) (List.mem_of_getElem? (i := 55) rfl)
  have k6 := hts (Cond.selects RX2 yX2_forgetAll yX2_forgetAll) (List.mem_of_getElem? (i := 57) rfl)
  refine lv_iload_n hx hb dX8_restore_0 rfl (lv_at hl 1 rfl) ?_
  refine roS (wc := ([] : va_W)) (As := [.int x1]) (rest := []) (c_X8_isSlot l D cy x1) hCF gX8_restore_X8_isSlot rfl hd_X8_isSlot ⟨rfl, rfl, Nat.le_of_ble_eq_true rfl, Nat.le_of_ble_eq_true rfl⟩ hG va_P_nil rfl hl.1 rfl (Nat.le_of_ble_eq_true rfl) dX8_restore_1 ⟨Nat.le_of_ble_eq_true rfl, Nat.le_of_ble_eq_true rfl⟩ ?_
  refine lv_if_ne (tgt := 15) hx hb dX8_restore_4 (by decide) (fun c_1 => ?_) (fun c_1 => ?_)
  · refine lv_aload_n hx hb dX8_restore_15 rfl (lv_at hl 0 rfl) ?_
    refine va_get (D := D) (ci := 6) (v := .ref (xa 2)) (C := RX8) (T := TX8) (N := 6) hx hb hts in_X8 hown hG.1 hP 0 g_Sp_0 rfl 5 (by decide) kv (fun _ h9 => h9) rfl dX8_restore_16 ?_
    refine lv_iload_n hx hb dX8_restore_19 rfl (lv_at hl 1 rfl) ?_
    refine va_zald hx hb hG.1 hP 2 1 (n := 2) (f := pV z) g_Sp_2 rfl (bd_isSlot c_1) dX8_restore_20 ?_
    refine lv_if_ne (tgt := 32) hx hb dX8_restore_21 (by decide) (fun c_2 => ?_) (fun c_2 => ?_)
    · rcases slot01 c_1 with rfl | rfl
      · refine lv_aload_n hx hb dX8_restore_32 rfl (lv_at hl 0 rfl) ?_
        refine va_get (D := D) (ci := 6) (v := .ref (na 0)) (C := RX8) (T := TX8) (N := 6) hx hb hts in_X8 hown hG.1 hP 0 g_Sp_0 rfl 1 (by decide) kn (fun _ h9 => h9) rfl dX8_restore_33 ?_
        refine lv_aload_n hx hb dX8_restore_36 rfl (lv_at hl 0 rfl) ?_
        refine va_get (D := D) (ci := 6) (v := .ref (xa 1)) (C := RX8) (T := TX8) (N := 6) hx hb hts in_X8 hown hG.1 hP 0 g_Sp_0 rfl 4 (by decide) ks (fun _ h9 => h9) rfl dX8_restore_37 ?_
        refine lv_iload_n hx hb dX8_restore_40 rfl (lv_at hl 1 rfl) ?_
        refine va_aldq (i := (0 : Int32)) hx hb hG.1 hP 1 2 g_Sp_1 rfl (bd_isSlot c_1) dX8_restore_41 ?_
        refine vwVN (ci := 3) (A0 := A) (As := [.ref (sa 0)]) (rest := []) (W1 := wSp cy xa sa sb tr na ka z) (W2 := wSp cy xa sa sb tr na ka (pN' z (pA z))) ((c_X5_copyTo l D cy na sa (pN z) (pA z)).ctx q_cpNA q_cpNA) hCF gX8_restore_X5_copyFrom_n276 (nw_X8_276 hG.2) k1 k2 k3 rfl hd_X5_copyFrom ⟨rfl, rfl, Nat.le_of_ble_eq_true rfl, Nat.le_of_ble_eq_true rfl⟩ hG hP hD hS hA h_Sp rfl rfl (List.mem_of_getElem? g_Sp_50) rfl hl.1 rfl (Nat.le_of_ble_eq_true rfl) dX8_restore_42 ⟨Nat.le_of_ble_eq_true rfl, Nat.le_of_ble_eq_true rfl⟩ (fun H locs hP hD hS => ?_)
        refine lv_aload_n hx hb dX8_restore_45 rfl (lv_at hl 0 rfl) ?_
        refine va_get (D := D) (ci := 6) (v := .ref (xa 5)) (C := RX8) (T := TX8) (N := 6) hx hb hts in_X8 hown hG.1 hP 0 g_Sp_0 rfl 3 (by decide) kh (fun _ h9 => h9) rfl dX8_restore_46 ?_
        refine vwVN (ci := 2) (A0 := A) (As := []) (rest := []) (W1 := wSp cy xa sa sb tr na ka (pN' z (pA z))) (W2 := wSp cy xa sa sb tr na ka (pH' (pN' z (pA z)) (hiForget (pH z)))) ((c_X2_forgetAll l D cy (xa 5) (xa 6) ka (pH z) []).ctx q_keep q_keep) hCF gX8_restore_X2_forgetAll_n62 (nw_X8_62 hG.2) k4 k5 k6 rfl hd_X2_forgetAll ⟨rfl, rfl, Nat.le_of_ble_eq_true rfl, Nat.le_of_ble_eq_true rfl⟩ hG hP hD hS hA h_Sp rfl rfl (List.mem_of_getElem? g_Sp_65) rfl hl.1 rfl (Nat.le_of_ble_eq_true rfl) dX8_restore_49 ⟨Nat.le_of_ble_eq_true rfl, Nat.le_of_ble_eq_true rfl⟩ (fun H locs hP hD hS => ?_)
        refine lv_aload_n hx hb dX8_restore_52 rfl (lv_at hl 0 rfl) ?_
        refine va_get (D := D) (ci := 6) (v := .ref (na 0)) (C := RX8) (T := TX8) (N := 6) hx hb hts in_X8 hown hG.1 hP 0 g_Sp_0 rfl 1 (by decide) kn (fun _ h9 => h9) rfl dX8_restore_53 ?_
        refine va_getN (D := D) (ci := 3) (v := .ref (na 1)) (C := RX5) (T := TX5) (N := 9) hx hb hts in_X5 hown hG.1 hP 50 g_Sp_50 rfl 0 (by decide) (va_Nw.use rfl (nw_X8_109 hG.2)) (fun _ h9 => h9) rfl dX8_restore_56 ?_
        refine va_getN (D := D) (ci := 5) (v := .int (uN (sU (pN (pH' (pN' z (pA z)) (hiForget (pH z))))))) (C := RX7) (T := TX7) (N := 6) hx hb hts in_X7 hown hG.1 hP 51 g_Sp_51 rfl 5 (by decide) (va_Nw.use rfl (nw_X8_113 hG.2)) (fun _ h9 => h9) rfl dX8_restore_59 ?_
        exact ex_iret hx hb hr hlocks hP hS (Nat.le_of_ble_eq_true rfl) (Nat.le_of_ble_eq_true rfl) dX8_restore_62 (by rw [m_X8_restore, if_neg c_1, if_neg c_2, if_pos (by decide)]) (by rw [m_X8_restore, if_neg c_1, if_neg c_2, if_pos (by decide)]; rfl) (by rw [m_X8_restore, if_neg c_1, if_neg c_2, if_pos (by decide)])
      · refine lv_aload_n hx hb dX8_restore_32 rfl (lv_at hl 0 rfl) ?_
        refine va_get (D := D) (ci := 6) (v := .ref (na 0)) (C := RX8) (T := TX8) (N := 6) hx hb hts in_X8 hown hG.1 hP 0 g_Sp_0 rfl 1 (by decide) kn (fun _ h9 => h9) rfl dX8_restore_33 ?_
        refine lv_aload_n hx hb dX8_restore_36 rfl (lv_at hl 0 rfl) ?_
        refine va_get (D := D) (ci := 6) (v := .ref (xa 1)) (C := RX8) (T := TX8) (N := 6) hx hb hts in_X8 hown hG.1 hP 0 g_Sp_0 rfl 4 (by decide) ks (fun _ h9 => h9) rfl dX8_restore_37 ?_
        refine lv_iload_n hx hb dX8_restore_40 rfl (lv_at hl 1 rfl) ?_
        refine va_aldq (i := (1 : Int32)) hx hb hG.1 hP 1 2 g_Sp_1 rfl (bd_isSlot c_1) dX8_restore_41 ?_
        refine vwVN (ci := 3) (A0 := A) (As := [.ref (sb 0)]) (rest := []) (W1 := wSp cy xa sa sb tr na ka z) (W2 := wSp cy xa sa sb tr na ka (pN' z (pB z))) ((c_X5_copyTo l D cy na sb (pN z) (pB z)).ctx q_cpNB q_cpNB) hCF gX8_restore_X5_copyFrom_n276 (nw_X8_276 hG.2) k1 k2 k3 rfl hd_X5_copyFrom ⟨rfl, rfl, Nat.le_of_ble_eq_true rfl, Nat.le_of_ble_eq_true rfl⟩ hG hP hD hS hA h_Sp rfl rfl (List.mem_of_getElem? g_Sp_50) rfl hl.1 rfl (Nat.le_of_ble_eq_true rfl) dX8_restore_42 ⟨Nat.le_of_ble_eq_true rfl, Nat.le_of_ble_eq_true rfl⟩ (fun H locs hP hD hS => ?_)
        refine lv_aload_n hx hb dX8_restore_45 rfl (lv_at hl 0 rfl) ?_
        refine va_get (D := D) (ci := 6) (v := .ref (xa 5)) (C := RX8) (T := TX8) (N := 6) hx hb hts in_X8 hown hG.1 hP 0 g_Sp_0 rfl 3 (by decide) kh (fun _ h9 => h9) rfl dX8_restore_46 ?_
        refine vwVN (ci := 2) (A0 := A) (As := []) (rest := []) (W1 := wSp cy xa sa sb tr na ka (pN' z (pB z))) (W2 := wSp cy xa sa sb tr na ka (pH' (pN' z (pB z)) (hiForget (pH z)))) ((c_X2_forgetAll l D cy (xa 5) (xa 6) ka (pH z) []).ctx q_keep q_keep) hCF gX8_restore_X2_forgetAll_n62 (nw_X8_62 hG.2) k4 k5 k6 rfl hd_X2_forgetAll ⟨rfl, rfl, Nat.le_of_ble_eq_true rfl, Nat.le_of_ble_eq_true rfl⟩ hG hP hD hS hA h_Sp rfl rfl (List.mem_of_getElem? g_Sp_65) rfl hl.1 rfl (Nat.le_of_ble_eq_true rfl) dX8_restore_49 ⟨Nat.le_of_ble_eq_true rfl, Nat.le_of_ble_eq_true rfl⟩ (fun H locs hP hD hS => ?_)
        refine lv_aload_n hx hb dX8_restore_52 rfl (lv_at hl 0 rfl) ?_
        refine va_get (D := D) (ci := 6) (v := .ref (na 0)) (C := RX8) (T := TX8) (N := 6) hx hb hts in_X8 hown hG.1 hP 0 g_Sp_0 rfl 1 (by decide) kn (fun _ h9 => h9) rfl dX8_restore_53 ?_
        refine va_getN (D := D) (ci := 3) (v := .ref (na 1)) (C := RX5) (T := TX5) (N := 9) hx hb hts in_X5 hown hG.1 hP 50 g_Sp_50 rfl 0 (by decide) (va_Nw.use rfl (nw_X8_109 hG.2)) (fun _ h9 => h9) rfl dX8_restore_56 ?_
        refine va_getN (D := D) (ci := 5) (v := .int (uN (sU (pN (pH' (pN' z (pB z)) (hiForget (pH z))))))) (C := RX7) (T := TX7) (N := 6) hx hb hts in_X7 hown hG.1 hP 51 g_Sp_51 rfl 5 (by decide) (va_Nw.use rfl (nw_X8_113 hG.2)) (fun _ h9 => h9) rfl dX8_restore_59 ?_
        exact ex_iret hx hb hr hlocks hP hS (Nat.le_of_ble_eq_true rfl) (Nat.le_of_ble_eq_true rfl) dX8_restore_62 (by rw [m_X8_restore, if_neg c_1, if_neg c_2, if_neg (by decide)]) (by rw [m_X8_restore, if_neg c_1, if_neg c_2, if_neg (by decide)]; rfl) (by rw [m_X8_restore, if_neg c_1, if_neg c_2, if_neg (by decide)])
    · exact ex_thr (i := 3) (ik := 48) (ic := 50) hx hb hl0 hown (hts (Cond.classLink RX8 48 "java/lang/IllegalStateException") (List.mem_of_getElem? (i := 3) rfl)) (hts (Cond.initialized "java/lang/IllegalStateException") (List.mem_of_getElem? (i := 4) rfl)) (by decide) (fun w h => hts w (List.mem_cons_of_mem _ (List.mem_append_right _ h))) (by decide +kernel) (by decide +kernel) hF hS hP (hl.1.trans hml.symm) dX8_restore_24 dX8_restore_27 dX8_restore_28 dX8_restore_31 hnx (Nat.le_of_ble_eq_true rfl) (Nat.le_of_ble_eq_true rfl) (Nat.le_of_ble_eq_true rfl) (Nat.le_of_ble_eq_true rfl) hlocks (Nat.le_of_ble_eq_true rfl) (Nat.le_of_ble_eq_true rfl) (by rw [m_X8_restore, if_neg c_1, if_pos c_2]) (by decide) (by rw [m_X8_restore, if_neg c_1, if_pos c_2])
  · exact ex_thr (i := 1) (ik := 156) (ic := 158) hx hb hl0 hown (hts (Cond.classLink RX8 156 "java/lang/IndexOutOfBoundsException") (List.mem_of_getElem? (i := 1) rfl)) (hts (Cond.initialized "java/lang/IndexOutOfBoundsException") (List.mem_of_getElem? (i := 2) rfl)) (by decide) (fun w h => hts w (List.mem_cons_of_mem _ (List.mem_append_left _ (List.mem_append_right _ h)))) (by decide +kernel) (by decide +kernel) hF hS hP (hl.1.trans hml.symm) dX8_restore_7 dX8_restore_10 dX8_restore_11 dX8_restore_14 hnx (Nat.le_of_ble_eq_true rfl) (Nat.le_of_ble_eq_true rfl) (Nat.le_of_ble_eq_true rfl) (Nat.le_of_ble_eq_true rfl) hlocks (Nat.le_of_ble_eq_true rfl) (Nat.le_of_ble_eq_true rfl) (by rw [m_X8_restore, if_pos c_1]) (by decide) (by rw [m_X8_restore, if_pos c_1])
