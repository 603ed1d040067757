set_option maxRecDepth 20000 in
theorem c_X8_clearText (l : Launch) (D : va_G) (cy : Nat → ClassId) (xa sa sb tr na : Nat → Nat) (ka : Nat → Nat → Nat) (z : SpT) : MU l D cy yX8_clearText wsX8_clearText ({ frames := 0, cells := 0, slots := 0, locals := 0 } : Room) (wSp cy xa sa sb tr na ka z) (wSp cy xa sa sb tr na ka (pT' z (tL' (pT z) 0))) [.ref (xa 0)] (tL (pT z)) := by
  refine MU.body (by decide) rfl (Nat.le_of_ble_eq_true rfl) ?_
  intro p e s m below meth c hx hb hml hr hts hown hlocks hP hG ls hl A hD hA hS
  have hl : lv_has ls 2 [(0, .ref (xa 0))] := hl
  have in_X8 : ∀ w ∈ u_ws RX8 TX8 6, w ∈ wsX8_clearText := fun _ h => List.mem_cons_of_mem _ (List.mem_append_left _ (List.mem_append_right _ h))
  have in_X6 : ∀ w ∈ u_ws RX6 TX6 7, w ∈ wsX8_clearText := fun _ h => List.mem_cons_of_mem _ (List.mem_append_right _ h)
  have kf := hts (Cond.fieldLink RX8 10 "SparePool" "text" "LSparePool$Text;") (List.mem_of_getElem? (i := 1) rfl)
  refine lv_aload_n hx hb dX8_clearText_0 rfl (lv_at hl 0 rfl) ?_
  refine va_get (D := D) (ci := 6) (v := .ref (xa 3)) (C := RX8) (T := TX8) (N := 6) hx hb hts in_X8 hown hG.1 hP 0 g_Sp_0 rfl 0 (by decide) kf (fun _ h9 => h9) rfl dX8_clearText_1 ?_
  refine va_getN (D := D) (ci := 4) (v := .int (tL (pT z))) (C := RX6) (T := TX6) (N := 7) hx hb hts in_X6 hown hG.1 hP 3 g_Sp_3 rfl 1 (by decide) (va_Nw.use rfl (nw_X8_44 hG.2)) (fun _ h9 => h9) rfl dX8_clearText_4 ?_
  refine lv_istore_n (lv' := [(1, .int (tL (pT z))), (0, .ref (xa 0))]) hx hb dX8_clearText_7 rfl hl (by decide) rfl (fun ls hl => ?_)
  refine lv_aload_n hx hb dX8_clearText_8 rfl (lv_at hl 1 rfl) ?_
  refine va_get (D := D) (ci := 6) (v := .ref (xa 3)) (C := RX8) (T := TX8) (N := 6) hx hb hts in_X8 hown hG.1 hP 0 g_Sp_0 rfl 0 (by decide) kf (fun _ h9 => h9) rfl dX8_clearText_9 ?_
  refine lv_iconst (v := (0 : Int32)) hx hb dX8_clearText_12 (by decide) ?_
  refine va_putN (D := D) (ci := 4) (v := .int (0 : Int32)) (ty := .int) (C := RX6) (T := TX6) (N := 7) hx hb hts in_X6 tyX6 tyX6_ok nmX6 hown hG.1 hP hD hS 3 g_Sp_3 rfl 1 (by decide) (va_Nw.use rfl (nw_X8_44 hG.2)) (fun _ h9 => h9) rfl (by decide +kernel) rfl rfl (Nat.le_of_ble_eq_true rfl) dX8_clearText_13 (fun H locs hP hD hS => ?_)
  refine lv_iload_n hx hb dX8_clearText_16 rfl (lv_at hl 0 rfl) ?_
  exact mu_iret hx hb hr hlocks hP hS dX8_clearText_17 rfl s_Sp_3_1
