set_option maxRecDepth 20000 in
theorem c_X8_errorPosition (l : Launch) (D : va_G) (cy : Nat → ClassId) (t : FxA) (xa sa sb tr na : Nat → Nat) (ka : Nat → Nat → Nat) (z : SpT) (hT : iv 0 120 (tL (pT z))) : MUf l D cy t yX8_errorPosition wsX8_errorPosition ({ frames := 6, cells := 0, slots := 0, locals := 140 } : Room) (wSp cy xa sa sb tr na ka z) (wSp cy xa sa sb tr na ka (pT' z (m_X6_firstError (pT z)).2)) [.ref (xa 0)] (m_X6_firstError (pT z)).1 := by
  refine MUf.body (by decide) rfl (Nat.le_of_ble_eq_true rfl) ?_
  intro p e s m below meth c hx hb hml hr hts hown hlocks hP hG ls hl A hD hA hS hF
  have hl : lv_has ls 1 [(0, .ref (xa 0))] := hl
  have hCF : CallFix p m c cX8_errorPosition 1 s ([.ref (xa 0)] : List Value).toArray wsX8_errorPosition RX8 := ⟨hx, hb, hml, hown, hts⟩
  have in_X8 : ∀ w ∈ u_ws RX8 TX8 6, w ∈ wsX8_errorPosition := fun _ h => List.mem_cons_of_mem _ (List.mem_append_left _ (List.mem_append_right _ h))
  have kf := hts (Cond.fieldLink RX8 10 "SparePool" "text" "LSparePool$Text;") (List.mem_of_getElem? (i := 1) rfl)
  have k1 := hts (Cond.initialized RX6) (List.mem_of_getElem? (i := 3) rfl)
  have k2 := hts (Cond.instanceMethod yX6_firstError) (List.mem_of_getElem? (i := 2) rfl)
  have k3 := hts (Cond.selects RX6 yX6_firstError yX6_firstError) (List.mem_of_getElem? (i := 4) rfl)
  refine lv_aload_n hx hb dX8_errorPosition_0 rfl (lv_at hl 0 rfl) ?_
  refine va_get (D := D) (ci := 6) (v := .ref (xa 3)) (C := RX8) (T := TX8) (N := 6) hx hb hts in_X8 hown hG.1 hP 0 g_Sp_0 rfl 0 (by decide) kf (fun _ h9 => h9) rfl dX8_errorPosition_1 ?_
  refine fwVN (ci := 4) (A0 := A) (As := []) (rest := []) (W1 := wSp cy xa sa sb tr na ka z) (W2 := wSp cy xa sa sb tr na ka (pT' z (m_X6_firstError (pT z)).2)) ((c_X6_firstError l D cy t (xa 3) (xa 4) (pT z) hT).ctx q_T q_T) hCF gX8_errorPosition_X6_firstError_n55 (nw_X8_55 hG.2) k1 k2 k3 rfl hd_X6_firstError ⟨rfl, rfl, Nat.le_of_ble_eq_true rfl, Nat.le_of_ble_eq_true rfl⟩ hG hF hP hD hS hA h_Sp rfl rfl (List.mem_of_getElem? g_Sp_3) rfl hl.1 rfl (Nat.le_of_ble_eq_true rfl) dX8_errorPosition_4 ⟨Nat.le_of_ble_eq_true rfl, Nat.le_of_ble_eq_true rfl⟩ (fun H locs hP hD hS => ?_)
  exact mu_iret hx hb hr hlocks hP hS dX8_errorPosition_7 rfl rfl
