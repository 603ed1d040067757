def m_X9_command (mo : MoT) (x1 : Int32) (x2 : Int32) : Int32 × MoT := if x1 = (1 : Int32) then ((m_X9_does (mW mo) (108 : Int32) (x2 / (1000 : Int32)) ((x2 / (100 : Int32)) - (((x2 / (100 : Int32)) / (10 : Int32)) * (10 : Int32))) (x2 - ((x2 / (100 : Int32)) * (100 : Int32)))).1, mW' mo (m_X9_does (mW mo) (108 : Int32) (x2 / (1000 : Int32)) ((x2 / (100 : Int32)) - (((x2 / (100 : Int32)) / (10 : Int32)) * (10 : Int32))) (x2 - ((x2 / (100 : Int32)) * (100 : Int32)))).2) else if x1 = (2 : Int32) then if (100 : Int32) ≤ x2 then ((0 : Int32), mo) else if (m_X9_does (mW mo) (114 : Int32) x2 (0 : Int32) (0 : Int32)).1 = (0 : Int32) then ((0 : Int32), mW' mo (m_X9_does (mW mo) (114 : Int32) x2 (0 : Int32) (0 : Int32)).2) else ((1 : Int32), mW' mo (m_X9_does (mW mo) (114 : Int32) x2 (0 : Int32) (0 : Int32)).2) else if x1 = (3 : Int32) then if (x2 - ((x2 / (10 : Int32)) * (10 : Int32))) = (0 : Int32) then if (m_X9_does (mW mo) (120 : Int32) (x2 / (1000 : Int32)) ((x2 / (10 : Int32)) - (((x2 / (10 : Int32)) / (100 : Int32)) * (100 : Int32))) (0 : Int32)).1 = (0 : Int32) then ((0 : Int32), mW' mo (m_X9_does (mW mo) (120 : Int32) (x2 / (1000 : Int32)) ((x2 / (10 : Int32)) - (((x2 / (10 : Int32)) / (100 : Int32)) * (100 : Int32))) (0 : Int32)).2) else ((1 : Int32), mW' mo (m_X9_does (mW mo) (120 : Int32) (x2 / (1000 : Int32)) ((x2 / (10 : Int32)) - (((x2 / (10 : Int32)) / (100 : Int32)) * (100 : Int32))) (0 : Int32)).2) else ((0 : Int32), mo) else if x1 = (4 : Int32) then ((m_X9_does (mW mo) (116 : Int32) (x2 / (1000 : Int32)) ((x2 / (10 : Int32)) - (((x2 / (10 : Int32)) / (100 : Int32)) * (100 : Int32))) (x2 - ((x2 / (10 : Int32)) * (10 : Int32)))).1, mW' mo (m_X9_does (mW mo) (116 : Int32) (x2 / (1000 : Int32)) ((x2 / (10 : Int32)) - (((x2 / (10 : Int32)) / (100 : Int32)) * (100 : Int32))) (x2 - ((x2 / (10 : Int32)) * (10 : Int32)))).2) else if x1 = (5 : Int32) then if (100 : Int32) ≤ x2 then ((0 : Int32), mo) else if (m_X9_does (mW mo) (100 : Int32) x2 (0 : Int32) (0 : Int32)).1 = (0 : Int32) then ((0 : Int32), mW' mo (m_X9_does (mW mo) (100 : Int32) x2 (0 : Int32) (0 : Int32)).2) else ((1 : Int32), mW' mo (m_X9_does (mW mo) (100 : Int32) x2 (0 : Int32) (0 : Int32)).2) else if x1 = (6 : Int32) then if (x2 - ((x2 / (100 : Int32)) * (100 : Int32))) = (0 : Int32) then if (m_X9_does (mW mo) (98 : Int32) (x2 / (1000 : Int32)) ((x2 / (100 : Int32)) - (((x2 / (100 : Int32)) / (10 : Int32)) * (10 : Int32))) (0 : Int32)).1 = (0 : Int32) then ((0 : Int32), mW' mo (m_X9_does (mW mo) (98 : Int32) (x2 / (1000 : Int32)) ((x2 / (100 : Int32)) - (((x2 / (100 : Int32)) / (10 : Int32)) * (10 : Int32))) (0 : Int32)).2) else ((1 : Int32), mW' mo (m_X9_does (mW mo) (98 : Int32) (x2 / (1000 : Int32)) ((x2 / (100 : Int32)) - (((x2 / (100 : Int32)) / (10 : Int32)) * (10 : Int32))) (0 : Int32)).2) else ((0 : Int32), mo) else if x1 = (7 : Int32) then if (x2 - ((x2 / (100 : Int32)) * (100 : Int32))) = (0 : Int32) then if (m_X9_isUnit (mW mo) (x2 / (1000 : Int32))) = (0 : Int32) then ((0 : Int32), mo) else if (m_X9_isHolder ((x2 / (100 : Int32)) - (((x2 / (100 : Int32)) / (10 : Int32)) * (10 : Int32)))) = (0 : Int32) then ((0 : Int32), mo) else if (m_X9_of (mW mo) (x2 / (1000 : Int32)) (2 : Int32)) = ((x2 / (100 : Int32)) - (((x2 / (100 : Int32)) / (10 : Int32)) * (10 : Int32))) then ((1 : Int32), mo) else ((0 : Int32), mo) else ((0 : Int32), mo) else if x1 = (8 : Int32) then if (x2 - ((x2 / (10 : Int32)) * (10 : Int32))) = (0 : Int32) then if (m_X9_isHolder (x2 / (10000 : Int32))) = (0 : Int32) then ((0 : Int32), mo) else if ((mW mo) ((88 : Int32) + (x2 / (10000 : Int32))).toNatClampNeg) < (((x2 / (10 : Int32)) - (((x2 / (10 : Int32)) / (1000 : Int32)) * (1000 : Int32))) - (500 : Int32)) then ((0 : Int32), mo) else ((1 : Int32), mo) else ((0 : Int32), mo) else if x1 = (9 : Int32) then if (100 : Int32) ≤ x2 then ((0 : Int32), mo) else if (m_X9_usable (mW mo)) < x2 then ((0 : Int32), mo) else ((1 : Int32), mo) else ((0 : Int32), mo)
theorem hd_X9_command : yX9_command.cls = RX9 ∧ yX9_command.cls ≠ "java/lang/invoke/MethodHandle" ∧ yX9_command.cls ≠ "java/lang/invoke/VarHandle" ∧ (parseMethodDescriptor yX9_command.desc).map (fun d => d.parameters.length) = some 2 := by decide +kernel
set_option maxHeartbeats 8000000 in
set_option maxRecDepth 20000 in
theorem c_X9_command (l : Launch) (D : va_G) (cy : Nat → ClassId) (a0 a1 a2 a3 a4 a5 a6 : Nat) (mo : MoT) (x1 : Int32) (x2 : Int32) (hW : rOK (mW mo)) : MU l D cy yX9_command wsX9_command ({ frames := 5, cells := 0, slots := 0, locals := 115 } : Room) (wMo cy a0 a1 a2 a3 a4 a5 a6 mo) (wMo cy a0 a1 a2 a3 a4 a5 a6 (m_X9_command mo x1 x2).2) [.ref a0, .int x1, .int x2] (m_X9_command mo x1 x2).1 := by
  refine MU.body (by decide) rfl (Nat.le_of_ble_eq_true rfl) ?_
  intro p e s m below meth c hx hb hml hr hts hown hlocks hP hG ls hl A hD hA hS
  have hl : lv_has ls 6 [(0, .ref a0), (1, .int x1), (2, .int x2)] := hl
  have hCF : CallFix p m c cX9_command 6 s ([.ref a0, .int x1, .int x2] : List Value).toArray wsX9_command RX9 := ⟨hx, hb, hml, hown, hts⟩
  have in_X9 : ∀ w ∈ u_ws RX9 TX9 11, w ∈ wsX9_command := fun _ h => List.mem_cons_of_mem _ (List.mem_append_right _ h)
  have k_0 := hts (Cond.fieldLink RX9 16 "SparePoolModel" "trial" "[I") (List.mem_of_getElem? (i := 1) rfl)
  have hP : va_P D vwCl (wMo cy a0 a1 a2 a3 a4 a5 a6 mo) s.heap := hP
  refine lv_iload_n hx hb dX9_command_0 rfl (lv_at hl 2 rfl) ?_
  refine lv_sipush (v := (1000 : Int32)) hx hb dX9_command_1 (by decide) ?_
  refine lv_idiv hx hb dX9_command_4 (by decide) ?_
  refine lv_istore_n (lv' := [(3, .int (x2 / (1000 : Int32))), (0, .ref a0), (1, .int x1), (2, .int x2)]) hx hb dX9_command_5 rfl hl (by decide) rfl (fun ls hl => ?_)
  refine lv_iload_n hx hb dX9_command_6 rfl (lv_at hl 3 rfl) ?_
  refine lv_bipush (v := (10 : Int32)) hx hb dX9_command_7 (by decide) ?_
  refine lv_idiv hx hb dX9_command_9 (by decide) ?_
  refine lv_bipush (v := (100 : Int32)) hx hb dX9_command_10 (by decide) ?_
  refine lv_irem hx hb dX9_command_12 (by decide) ?_
  refine lv_istore (lv' := [(4, .int ((x2 / (10 : Int32)) - (((x2 / (10 : Int32)) / (100 : Int32)) * (100 : Int32)))), (3, .int (x2 / (1000 : Int32))), (0, .ref a0), (1, .int x1), (2, .int x2)]) hx hb dX9_command_13 hl (by decide) rfl (fun ls hl => ?_)
  refine lv_iload_n hx hb dX9_command_15 rfl (lv_at hl 4 rfl) ?_
  refine lv_bipush (v := (10 : Int32)) hx hb dX9_command_16 (by decide) ?_
  refine lv_irem hx hb dX9_command_18 (by decide) ?_
  refine lv_istore (lv' := [(5, .int (x2 - ((x2 / (10 : Int32)) * (10 : Int32)))), (4, .int ((x2 / (10 : Int32)) - (((x2 / (10 : Int32)) / (100 : Int32)) * (100 : Int32)))), (3, .int (x2 / (1000 : Int32))), (0, .ref a0), (1, .int x1), (2, .int x2)]) hx hb dX9_command_19 hl (by decide) rfl (fun ls hl => ?_)
  refine lv_iload_n hx hb dX9_command_21 rfl (lv_at hl 4 rfl) ?_
  by_cases c_1 : x1 = (1 : Int32)
  · refine lv_tableIn (tgt := 72) hx hb dX9_command_22 (by rw [c_1]; decide) (by rw [c_1]; decide) (by rw [c_1]; rfl) (by decide) ?_
    refine lv_aload_n hx hb dX9_command_72 rfl (lv_at hl 3 rfl) ?_
    refine va_get (D := D) (ci := 7) (v := .ref a3) (C := RX9) (T := TX9) (N := 11) hx hb hts in_X9 hown hG.1 hP 0 g_Mo_0 rfl 4 (by decide) k_0 (fun _ h9 => h9) rfl dX9_command_73 ?_
    refine lv_bipush (v := (108 : Int32)) hx hb dX9_command_76 (by decide) ?_
    refine lv_iload_n hx hb dX9_command_78 rfl (lv_at hl 2 rfl) ?_
    refine lv_iload_n hx hb dX9_command_79 rfl (lv_at hl 5 rfl) ?_
    refine lv_bipush (v := (100 : Int32)) hx hb dX9_command_80 (by decide) ?_
    refine lv_idiv hx hb dX9_command_82 (by decide) ?_
    refine lv_bipush (v := (10 : Int32)) hx hb dX9_command_83 (by decide) ?_
    refine lv_irem hx hb dX9_command_85 (by decide) ?_
    refine lv_iload_n hx hb dX9_command_86 rfl (lv_at hl 5 rfl) ?_
    refine lv_bipush (v := (100 : Int32)) hx hb dX9_command_87 (by decide) ?_
    refine lv_irem hx hb dX9_command_89 (by decide) ?_
    refine muS (A0 := A) (wc := (wAr cy a3 (mW mo))) (As := [.ref a3, .int (108 : Int32), .int (x2 / (1000 : Int32)), .int ((x2 / (100 : Int32)) - (((x2 / (100 : Int32)) / (10 : Int32)) * (10 : Int32))), .int (x2 - ((x2 / (100 : Int32)) * (100 : Int32)))]) (rest := []) (c_X9_does l D cy a3 (mW mo) (108 : Int32) (x2 / (1000 : Int32)) ((x2 / (100 : Int32)) - (((x2 / (100 : Int32)) / (10 : Int32)) * (10 : Int32))) (x2 - ((x2 / (100 : Int32)) * (100 : Int32))) hW) hCF gX9_command_X9_does rfl hd_X9_does ⟨rfl, rfl, Nat.le_of_ble_eq_true rfl, Nat.le_of_ble_eq_true rfl⟩ hG hP hD hS hA [3] rfl c_Mo_Ar3 h_Ar rfl hl.1 rfl (Nat.le_of_ble_eq_true rfl) dX9_command_90 ⟨Nat.le_refl _, Nat.le_refl _⟩ (fun H locs hP hD hS => ?_)
    have hP : va_P D vwCl (wMo cy a0 a1 a2 a3 a4 a5 a6 (mW' mo (m_X9_does (mW mo) (108 : Int32) (x2 / (1000 : Int32)) ((x2 / (100 : Int32)) - (((x2 / (100 : Int32)) / (10 : Int32)) * (10 : Int32))) (x2 - ((x2 / (100 : Int32)) * (100 : Int32)))).2)) H := va_P_eq hP r_Mo_Ar3
    have hD : va_D A (wMo cy a0 a1 a2 a3 a4 a5 a6 (mW' mo (m_X9_does (mW mo) (108 : Int32) (x2 / (1000 : Int32)) ((x2 / (100 : Int32)) - (((x2 / (100 : Int32)) / (10 : Int32)) * (10 : Int32))) (x2 - ((x2 / (100 : Int32)) * (100 : Int32)))).2)) := va_D_eq hD r_Mo_Ar3
    exact mu_zret hx hb hr hlocks (nz (b01_does _ _ _ _ _)) hP hS dX9_command_93 (by rw [m_X9_command, if_pos c_1]) (by rw [m_X9_command, if_pos c_1])
  by_cases c_2 : x1 = (2 : Int32)
  · refine lv_tableIn (tgt := 94) hx hb dX9_command_22 (by rw [c_2]; decide) (by rw [c_2]; decide) (by rw [c_2]; rfl) (by decide) ?_
    refine lv_iload_n hx hb dX9_command_94 rfl (lv_at hl 5 rfl) ?_
    refine lv_bipush (v := (100 : Int32)) hx hb dX9_command_95 (by decide) ?_
    refine lv_icmp_ge (tgt := 119) hx hb dX9_command_97 (by decide) (fun c_3 => ?_) (fun c_3 => ?_)
    · skip
      refine lv_iconst (v := (0 : Int32)) hx hb dX9_command_119 (by decide) ?_
      exact mu_zret hx hb hr hlocks rfl hP hS dX9_command_120 (by rw [m_X9_command, if_neg c_1, if_pos c_2, if_pos c_3]) (by rw [m_X9_command, if_neg c_1, if_pos c_2, if_pos c_3])
    · skip
      refine lv_aload_n hx hb dX9_command_100 rfl (lv_at hl 3 rfl) ?_
      refine va_get (D := D) (ci := 7) (v := .ref a3) (C := RX9) (T := TX9) (N := 11) hx hb hts in_X9 hown hG.1 hP 0 g_Mo_0 rfl 4 (by decide) k_0 (fun _ h9 => h9) rfl dX9_command_101 ?_
      refine lv_bipush (v := (114 : Int32)) hx hb dX9_command_104 (by decide) ?_
      refine lv_iload_n hx hb dX9_command_106 rfl (lv_at hl 5 rfl) ?_
      refine lv_iconst (v := (0 : Int32)) hx hb dX9_command_107 (by decide) ?_
      refine lv_iconst (v := (0 : Int32)) hx hb dX9_command_108 (by decide) ?_
      refine muS (A0 := A) (wc := (wAr cy a3 (mW mo))) (As := [.ref a3, .int (114 : Int32), .int x2, .int (0 : Int32), .int (0 : Int32)]) (rest := []) (c_X9_does l D cy a3 (mW mo) (114 : Int32) x2 (0 : Int32) (0 : Int32) hW) hCF gX9_command_X9_does rfl hd_X9_does ⟨rfl, rfl, Nat.le_of_ble_eq_true rfl, Nat.le_of_ble_eq_true rfl⟩ hG hP hD hS hA [3] rfl c_Mo_Ar3 h_Ar rfl hl.1 rfl (Nat.le_of_ble_eq_true rfl) dX9_command_109 ⟨Nat.le_refl _, Nat.le_refl _⟩ (fun H locs hP hD hS => ?_)
      have hP : va_P D vwCl (wMo cy a0 a1 a2 a3 a4 a5 a6 (mW' mo (m_X9_does (mW mo) (114 : Int32) x2 (0 : Int32) (0 : Int32)).2)) H := va_P_eq hP r_Mo_Ar3
      have hD : va_D A (wMo cy a0 a1 a2 a3 a4 a5 a6 (mW' mo (m_X9_does (mW mo) (114 : Int32) x2 (0 : Int32) (0 : Int32)).2)) := va_D_eq hD r_Mo_Ar3
      refine lv_if_eq (tgt := 119) hx hb dX9_command_112 (by decide) (fun c_4 => ?_) (fun c_4 => ?_)
      · skip
        refine lv_iconst (v := (0 : Int32)) hx hb dX9_command_119 (by decide) ?_
        exact mu_zret hx hb hr hlocks rfl hP hS dX9_command_120 (by rw [m_X9_command, if_neg c_1, if_pos c_2, if_neg c_3, if_pos c_4]) (by rw [m_X9_command, if_neg c_1, if_pos c_2, if_neg c_3, if_pos c_4])
      · skip
        refine lv_iconst (v := (1 : Int32)) hx hb dX9_command_115 (by decide) ?_
        refine lv_goto (tgt := 120) hx hb dX9_command_116 (by decide) ?_
        exact mu_zret hx hb hr hlocks rfl hP hS dX9_command_120 (by rw [m_X9_command, if_neg c_1, if_pos c_2, if_neg c_3, if_neg c_4]) (by rw [m_X9_command, if_neg c_1, if_pos c_2, if_neg c_3, if_neg c_4])
  by_cases c_5 : x1 = (3 : Int32)
  · refine lv_tableIn (tgt := 121) hx hb dX9_command_22 (by rw [c_5]; decide) (by rw [c_5]; decide) (by rw [c_5]; rfl) (by decide) ?_
    refine lv_iload hx hb dX9_command_121 (lv_at hl 0 rfl) ?_
    refine lv_if_ne (tgt := 146) hx hb dX9_command_123 (by decide) (fun c_6 => ?_) (fun c_6 => ?_)
    · skip
      refine lv_iconst (v := (0 : Int32)) hx hb dX9_command_146 (by decide) ?_
      exact mu_zret hx hb hr hlocks rfl hP hS dX9_command_147 (by rw [m_X9_command, if_neg c_1, if_neg c_2, if_pos c_5, if_neg c_6]) (by rw [m_X9_command, if_neg c_1, if_neg c_2, if_pos c_5, if_neg c_6])
    · skip
      refine lv_aload_n hx hb dX9_command_126 rfl (lv_at hl 3 rfl) ?_
      refine va_get (D := D) (ci := 7) (v := .ref a3) (C := RX9) (T := TX9) (N := 11) hx hb hts in_X9 hown hG.1 hP 0 g_Mo_0 rfl 4 (by decide) k_0 (fun _ h9 => h9) rfl dX9_command_127 ?_
      refine lv_bipush (v := (120 : Int32)) hx hb dX9_command_130 (by decide) ?_
      refine lv_iload_n hx hb dX9_command_132 rfl (lv_at hl 2 rfl) ?_
      refine lv_iload hx hb dX9_command_133 (lv_at hl 1 rfl) ?_
      refine lv_iconst (v := (0 : Int32)) hx hb dX9_command_135 (by decide) ?_
      refine muS (A0 := A) (wc := (wAr cy a3 (mW mo))) (As := [.ref a3, .int (120 : Int32), .int (x2 / (1000 : Int32)), .int ((x2 / (10 : Int32)) - (((x2 / (10 : Int32)) / (100 : Int32)) * (100 : Int32))), .int (0 : Int32)]) (rest := []) (c_X9_does l D cy a3 (mW mo) (120 : Int32) (x2 / (1000 : Int32)) ((x2 / (10 : Int32)) - (((x2 / (10 : Int32)) / (100 : Int32)) * (100 : Int32))) (0 : Int32) hW) hCF gX9_command_X9_does rfl hd_X9_does ⟨rfl, rfl, Nat.le_of_ble_eq_true rfl, Nat.le_of_ble_eq_true rfl⟩ hG hP hD hS hA [3] rfl c_Mo_Ar3 h_Ar rfl hl.1 rfl (Nat.le_of_ble_eq_true rfl) dX9_command_136 ⟨Nat.le_refl _, Nat.le_refl _⟩ (fun H locs hP hD hS => ?_)
      have hP : va_P D vwCl (wMo cy a0 a1 a2 a3 a4 a5 a6 (mW' mo (m_X9_does (mW mo) (120 : Int32) (x2 / (1000 : Int32)) ((x2 / (10 : Int32)) - (((x2 / (10 : Int32)) / (100 : Int32)) * (100 : Int32))) (0 : Int32)).2)) H := va_P_eq hP r_Mo_Ar3
      have hD : va_D A (wMo cy a0 a1 a2 a3 a4 a5 a6 (mW' mo (m_X9_does (mW mo) (120 : Int32) (x2 / (1000 : Int32)) ((x2 / (10 : Int32)) - (((x2 / (10 : Int32)) / (100 : Int32)) * (100 : Int32))) (0 : Int32)).2)) := va_D_eq hD r_Mo_Ar3
      refine lv_if_eq (tgt := 146) hx hb dX9_command_139 (by decide) (fun c_7 => ?_) (fun c_7 => ?_)
      · skip
        refine lv_iconst (v := (0 : Int32)) hx hb dX9_command_146 (by decide) ?_
        exact mu_zret hx hb hr hlocks rfl hP hS dX9_command_147 (by rw [m_X9_command, if_neg c_1, if_neg c_2, if_pos c_5, if_pos c_6, if_pos c_7]) (by rw [m_X9_command, if_neg c_1, if_neg c_2, if_pos c_5, if_pos c_6, if_pos c_7])
      · skip
        refine lv_iconst (v := (1 : Int32)) hx hb dX9_command_142 (by decide) ?_
        refine lv_goto (tgt := 147) hx hb dX9_command_143 (by decide) ?_
        exact mu_zret hx hb hr hlocks rfl hP hS dX9_command_147 (by rw [m_X9_command, if_neg c_1, if_neg c_2, if_pos c_5, if_pos c_6, if_neg c_7]) (by rw [m_X9_command, if_neg c_1, if_neg c_2, if_pos c_5, if_pos c_6, if_neg c_7])
  by_cases c_8 : x1 = (4 : Int32)
  · refine lv_tableIn (tgt := 148) hx hb dX9_command_22 (by rw [c_8]; decide) (by rw [c_8]; decide) (by rw [c_8]; rfl) (by decide) ?_
    refine lv_aload_n hx hb dX9_command_148 rfl (lv_at hl 3 rfl) ?_
    refine va_get (D := D) (ci := 7) (v := .ref a3) (C := RX9) (T := TX9) (N := 11) hx hb hts in_X9 hown hG.1 hP 0 g_Mo_0 rfl 4 (by decide) k_0 (fun _ h9 => h9) rfl dX9_command_149 ?_
    refine lv_bipush (v := (116 : Int32)) hx hb dX9_command_152 (by decide) ?_
    refine lv_iload_n hx hb dX9_command_154 rfl (lv_at hl 2 rfl) ?_
    refine lv_iload hx hb dX9_command_155 (lv_at hl 1 rfl) ?_
    refine lv_iload hx hb dX9_command_157 (lv_at hl 0 rfl) ?_
    refine muS (A0 := A) (wc := (wAr cy a3 (mW mo))) (As := [.ref a3, .int (116 : Int32), .int (x2 / (1000 : Int32)), .int ((x2 / (10 : Int32)) - (((x2 / (10 : Int32)) / (100 : Int32)) * (100 : Int32))), .int (x2 - ((x2 / (10 : Int32)) * (10 : Int32)))]) (rest := []) (c_X9_does l D cy a3 (mW mo) (116 : Int32) (x2 / (1000 : Int32)) ((x2 / (10 : Int32)) - (((x2 / (10 : Int32)) / (100 : Int32)) * (100 : Int32))) (x2 - ((x2 / (10 : Int32)) * (10 : Int32))) hW) hCF gX9_command_X9_does rfl hd_X9_does ⟨rfl, rfl, Nat.le_of_ble_eq_true rfl, Nat.le_of_ble_eq_true rfl⟩ hG hP hD hS hA [3] rfl c_Mo_Ar3 h_Ar rfl hl.1 rfl (Nat.le_of_ble_eq_true rfl) dX9_command_159 ⟨Nat.le_refl _, Nat.le_refl _⟩ (fun H locs hP hD hS => ?_)
    have hP : va_P D vwCl (wMo cy a0 a1 a2 a3 a4 a5 a6 (mW' mo (m_X9_does (mW mo) (116 : Int32) (x2 / (1000 : Int32)) ((x2 / (10 : Int32)) - (((x2 / (10 : Int32)) / (100 : Int32)) * (100 : Int32))) (x2 - ((x2 / (10 : Int32)) * (10 : Int32)))).2)) H := va_P_eq hP r_Mo_Ar3
    have hD : va_D A (wMo cy a0 a1 a2 a3 a4 a5 a6 (mW' mo (m_X9_does (mW mo) (116 : Int32) (x2 / (1000 : Int32)) ((x2 / (10 : Int32)) - (((x2 / (10 : Int32)) / (100 : Int32)) * (100 : Int32))) (x2 - ((x2 / (10 : Int32)) * (10 : Int32)))).2)) := va_D_eq hD r_Mo_Ar3
    exact mu_zret hx hb hr hlocks (nz (b01_does _ _ _ _ _)) hP hS dX9_command_162 (by rw [m_X9_command, if_neg c_1, if_neg c_2, if_neg c_5, if_pos c_8]) (by rw [m_X9_command, if_neg c_1, if_neg c_2, if_neg c_5, if_pos c_8])
  by_cases c_9 : x1 = (5 : Int32)
  · refine lv_tableIn (tgt := 163) hx hb dX9_command_22 (by rw [c_9]; decide) (by rw [c_9]; decide) (by rw [c_9]; rfl) (by decide) ?_
    refine lv_iload_n hx hb dX9_command_163 rfl (lv_at hl 5 rfl) ?_
    refine lv_bipush (v := (100 : Int32)) hx hb dX9_command_164 (by decide) ?_
    refine lv_icmp_ge (tgt := 188) hx hb dX9_command_166 (by decide) (fun c_10 => ?_) (fun c_10 => ?_)
    · skip
      refine lv_iconst (v := (0 : Int32)) hx hb dX9_command_188 (by decide) ?_
      exact mu_zret hx hb hr hlocks rfl hP hS dX9_command_189 (by rw [m_X9_command, if_neg c_1, if_neg c_2, if_neg c_5, if_neg c_8, if_pos c_9, if_pos c_10]) (by rw [m_X9_command, if_neg c_1, if_neg c_2, if_neg c_5, if_neg c_8, if_pos c_9, if_pos c_10])
    · skip
      refine lv_aload_n hx hb dX9_command_169 rfl (lv_at hl 3 rfl) ?_
      refine va_get (D := D) (ci := 7) (v := .ref a3) (C := RX9) (T := TX9) (N := 11) hx hb hts in_X9 hown hG.1 hP 0 g_Mo_0 rfl 4 (by decide) k_0 (fun _ h9 => h9) rfl dX9_command_170 ?_
      refine lv_bipush (v := (100 : Int32)) hx hb dX9_command_173 (by decide) ?_
      refine lv_iload_n hx hb dX9_command_175 rfl (lv_at hl 5 rfl) ?_
      refine lv_iconst (v := (0 : Int32)) hx hb dX9_command_176 (by decide) ?_
      refine lv_iconst (v := (0 : Int32)) hx hb dX9_command_177 (by decide) ?_
      refine muS (A0 := A) (wc := (wAr cy a3 (mW mo))) (As := [.ref a3, .int (100 : Int32), .int x2, .int (0 : Int32), .int (0 : Int32)]) (rest := []) (c_X9_does l D cy a3 (mW mo) (100 : Int32) x2 (0 : Int32) (0 : Int32) hW) hCF gX9_command_X9_does rfl hd_X9_does ⟨rfl, rfl, Nat.le_of_ble_eq_true rfl, Nat.le_of_ble_eq_true rfl⟩ hG hP hD hS hA [3] rfl c_Mo_Ar3 h_Ar rfl hl.1 rfl (Nat.le_of_ble_eq_true rfl) dX9_command_178 ⟨Nat.le_refl _, Nat.le_refl _⟩ (fun H locs hP hD hS => ?_)
      have hP : va_P D vwCl (wMo cy a0 a1 a2 a3 a4 a5 a6 (mW' mo (m_X9_does (mW mo) (100 : Int32) x2 (0 : Int32) (0 : Int32)).2)) H := va_P_eq hP r_Mo_Ar3
      have hD : va_D A (wMo cy a0 a1 a2 a3 a4 a5 a6 (mW' mo (m_X9_does (mW mo) (100 : Int32) x2 (0 : Int32) (0 : Int32)).2)) := va_D_eq hD r_Mo_Ar3
      refine lv_if_eq (tgt := 188) hx hb dX9_command_181 (by decide) (fun c_11 => ?_) (fun c_11 => ?_)
      · skip
        refine lv_iconst (v := (0 : Int32)) hx hb dX9_command_188 (by decide) ?_
        exact mu_zret hx hb hr hlocks rfl hP hS dX9_command_189 (by rw [m_X9_command, if_neg c_1, if_neg c_2, if_neg c_5, if_neg c_8, if_pos c_9, if_neg c_10, if_pos c_11]) (by rw [m_X9_command, if_neg c_1, if_neg c_2, if_neg c_5, if_neg c_8, if_pos c_9, if_neg c_10, if_pos c_11])
      · skip
        refine lv_iconst (v := (1 : Int32)) hx hb dX9_command_184 (by decide) ?_
        refine lv_goto (tgt := 189) hx hb dX9_command_185 (by decide) ?_
        exact mu_zret hx hb hr hlocks rfl hP hS dX9_command_189 (by rw [m_X9_command, if_neg c_1, if_neg c_2, if_neg c_5, if_neg c_8, if_pos c_9, if_neg c_10, if_neg c_11]) (by rw [m_X9_command, if_neg c_1, if_neg c_2, if_neg c_5, if_neg c_8, if_pos c_9, if_neg c_10, if_neg c_11])
  by_cases c_12 : x1 = (6 : Int32)
  · refine lv_tableIn (tgt := 190) hx hb dX9_command_22 (by rw [c_12]; decide) (by rw [c_12]; decide) (by rw [c_12]; rfl) (by decide) ?_
    refine lv_iload_n hx hb dX9_command_190 rfl (lv_at hl 5 rfl) ?_
    refine lv_bipush (v := (100 : Int32)) hx hb dX9_command_191 (by decide) ?_
    refine lv_irem hx hb dX9_command_193 (by decide) ?_
    refine lv_if_ne (tgt := 222) hx hb dX9_command_194 (by decide) (fun c_13 => ?_) (fun c_13 => ?_)
    · skip
      refine lv_iconst (v := (0 : Int32)) hx hb dX9_command_222 (by decide) ?_
      exact mu_zret hx hb hr hlocks rfl hP hS dX9_command_223 (by rw [m_X9_command, if_neg c_1, if_neg c_2, if_neg c_5, if_neg c_8, if_neg c_9, if_pos c_12, if_neg c_13]) (by rw [m_X9_command, if_neg c_1, if_neg c_2, if_neg c_5, if_neg c_8, if_neg c_9, if_pos c_12, if_neg c_13])
    · skip
      refine lv_aload_n hx hb dX9_command_197 rfl (lv_at hl 3 rfl) ?_
      refine va_get (D := D) (ci := 7) (v := .ref a3) (C := RX9) (T := TX9) (N := 11) hx hb hts in_X9 hown hG.1 hP 0 g_Mo_0 rfl 4 (by decide) k_0 (fun _ h9 => h9) rfl dX9_command_198 ?_
      refine lv_bipush (v := (98 : Int32)) hx hb dX9_command_201 (by decide) ?_
      refine lv_iload_n hx hb dX9_command_203 rfl (lv_at hl 2 rfl) ?_
      refine lv_iload_n hx hb dX9_command_204 rfl (lv_at hl 5 rfl) ?_
      refine lv_bipush (v := (100 : Int32)) hx hb dX9_command_205 (by decide) ?_
      refine lv_idiv hx hb dX9_command_207 (by decide) ?_
      refine lv_bipush (v := (10 : Int32)) hx hb dX9_command_208 (by decide) ?_
      refine lv_irem hx hb dX9_command_210 (by decide) ?_
      refine lv_iconst (v := (0 : Int32)) hx hb dX9_command_211 (by decide) ?_
      refine muS (A0 := A) (wc := (wAr cy a3 (mW mo))) (As := [.ref a3, .int (98 : Int32), .int (x2 / (1000 : Int32)), .int ((x2 / (100 : Int32)) - (((x2 / (100 : Int32)) / (10 : Int32)) * (10 : Int32))), .int (0 : Int32)]) (rest := []) (c_X9_does l D cy a3 (mW mo) (98 : Int32) (x2 / (1000 : Int32)) ((x2 / (100 : Int32)) - (((x2 / (100 : Int32)) / (10 : Int32)) * (10 : Int32))) (0 : Int32) hW) hCF gX9_command_X9_does rfl hd_X9_does ⟨rfl, rfl, Nat.le_of_ble_eq_true rfl, Nat.le_of_ble_eq_true rfl⟩ hG hP hD hS hA [3] rfl c_Mo_Ar3 h_Ar rfl hl.1 rfl (Nat.le_of_ble_eq_true rfl) dX9_command_212 ⟨Nat.le_refl _, Nat.le_refl _⟩ (fun H locs hP hD hS => ?_)
      have hP : va_P D vwCl (wMo cy a0 a1 a2 a3 a4 a5 a6 (mW' mo (m_X9_does (mW mo) (98 : Int32) (x2 / (1000 : Int32)) ((x2 / (100 : Int32)) - (((x2 / (100 : Int32)) / (10 : Int32)) * (10 : Int32))) (0 : Int32)).2)) H := va_P_eq hP r_Mo_Ar3
      have hD : va_D A (wMo cy a0 a1 a2 a3 a4 a5 a6 (mW' mo (m_X9_does (mW mo) (98 : Int32) (x2 / (1000 : Int32)) ((x2 / (100 : Int32)) - (((x2 / (100 : Int32)) / (10 : Int32)) * (10 : Int32))) (0 : Int32)).2)) := va_D_eq hD r_Mo_Ar3
      refine lv_if_eq (tgt := 222) hx hb dX9_command_215 (by decide) (fun c_14 => ?_) (fun c_14 => ?_)
      · skip
        refine lv_iconst (v := (0 : Int32)) hx hb dX9_command_222 (by decide) ?_
        exact mu_zret hx hb hr hlocks rfl hP hS dX9_command_223 (by rw [m_X9_command, if_neg c_1, if_neg c_2, if_neg c_5, if_neg c_8, if_neg c_9, if_pos c_12, if_pos c_13, if_pos c_14]) (by rw [m_X9_command, if_neg c_1, if_neg c_2, if_neg c_5, if_neg c_8, if_neg c_9, if_pos c_12, if_pos c_13, if_pos c_14])
      · skip
        refine lv_iconst (v := (1 : Int32)) hx hb dX9_command_218 (by decide) ?_
        refine lv_goto (tgt := 223) hx hb dX9_command_219 (by decide) ?_
        exact mu_zret hx hb hr hlocks rfl hP hS dX9_command_223 (by rw [m_X9_command, if_neg c_1, if_neg c_2, if_neg c_5, if_neg c_8, if_neg c_9, if_pos c_12, if_pos c_13, if_neg c_14]) (by rw [m_X9_command, if_neg c_1, if_neg c_2, if_neg c_5, if_neg c_8, if_neg c_9, if_pos c_12, if_pos c_13, if_neg c_14])
  by_cases c_15 : x1 = (7 : Int32)
  · refine lv_tableIn (tgt := 224) hx hb dX9_command_22 (by rw [c_15]; decide) (by rw [c_15]; decide) (by rw [c_15]; rfl) (by decide) ?_
    refine lv_iload_n hx hb dX9_command_224 rfl (lv_at hl 5 rfl) ?_
    refine lv_bipush (v := (100 : Int32)) hx hb dX9_command_225 (by decide) ?_
    refine lv_irem hx hb dX9_command_227 (by decide) ?_
    refine lv_if_ne (tgt := 278) hx hb dX9_command_228 (by decide) (fun c_16 => ?_) (fun c_16 => ?_)
    · skip
      refine lv_iconst (v := (0 : Int32)) hx hb dX9_command_278 (by decide) ?_
      exact mu_zret hx hb hr hlocks rfl hP hS dX9_command_279 (by rw [m_X9_command, if_neg c_1, if_neg c_2, if_neg c_5, if_neg c_8, if_neg c_9, if_neg c_12, if_pos c_15, if_neg c_16]) (by rw [m_X9_command, if_neg c_1, if_neg c_2, if_neg c_5, if_neg c_8, if_neg c_9, if_neg c_12, if_pos c_15, if_neg c_16])
    · skip
      refine lv_aload_n hx hb dX9_command_231 rfl (lv_at hl 3 rfl) ?_
      refine va_get (D := D) (ci := 7) (v := .ref a3) (C := RX9) (T := TX9) (N := 11) hx hb hts in_X9 hown hG.1 hP 0 g_Mo_0 rfl 4 (by decide) k_0 (fun _ h9 => h9) rfl dX9_command_232 ?_
      refine lv_iload_n hx hb dX9_command_235 rfl (lv_at hl 2 rfl) ?_
      refine roS (wc := (wAr cy a3 (mW mo))) (As := [.ref a3, .int (x2 / (1000 : Int32))]) (rest := []) (c_X9_isUnit l D cy a3 (mW mo) (x2 / (1000 : Int32))) hCF gX9_command_X9_isUnit rfl hd_X9_isUnit ⟨rfl, rfl, Nat.le_of_ble_eq_true rfl, Nat.le_of_ble_eq_true rfl⟩ hG (hP.sub (ws' := (wAr cy a3 (mW mo))) [3] u_Mo_Ar3) rfl hl.1 rfl (Nat.le_of_ble_eq_true rfl) dX9_command_236 ⟨Nat.le_refl _, Nat.le_refl _⟩ ?_
      refine lv_if_eq (tgt := 278) hx hb dX9_command_239 (by decide) (fun c_17 => ?_) (fun c_17 => ?_)
      · skip
        refine lv_iconst (v := (0 : Int32)) hx hb dX9_command_278 (by decide) ?_
        exact mu_zret hx hb hr hlocks rfl hP hS dX9_command_279 (by rw [m_X9_command, if_neg c_1, if_neg c_2, if_neg c_5, if_neg c_8, if_neg c_9, if_neg c_12, if_pos c_15, if_pos c_16, if_pos c_17]) (by rw [m_X9_command, if_neg c_1, if_neg c_2, if_neg c_5, if_neg c_8, if_neg c_9, if_neg c_12, if_pos c_15, if_pos c_16, if_pos c_17])
      · skip
        refine lv_iload_n hx hb dX9_command_242 rfl (lv_at hl 5 rfl) ?_
        refine lv_bipush (v := (100 : Int32)) hx hb dX9_command_243 (by decide) ?_
        refine lv_idiv hx hb dX9_command_245 (by decide) ?_
        refine lv_bipush (v := (10 : Int32)) hx hb dX9_command_246 (by decide) ?_
        refine lv_irem hx hb dX9_command_248 (by decide) ?_
        refine roS (wc := ([] : va_W)) (As := [.int ((x2 / (100 : Int32)) - (((x2 / (100 : Int32)) / (10 : Int32)) * (10 : Int32)))]) (rest := []) (c_X9_isHolder l D cy ((x2 / (100 : Int32)) - (((x2 / (100 : Int32)) / (10 : Int32)) * (10 : Int32)))) hCF gX9_command_X9_isHolder rfl hd_X9_isHolder ⟨rfl, rfl, Nat.le_of_ble_eq_true rfl, Nat.le_of_ble_eq_true rfl⟩ hG va_P_nil rfl hl.1 rfl (Nat.le_of_ble_eq_true rfl) dX9_command_249 ⟨Nat.le_refl _, Nat.le_refl _⟩ ?_
        refine lv_if_eq (tgt := 278) hx hb dX9_command_252 (by decide) (fun c_18 => ?_) (fun c_18 => ?_)
        · skip
          refine lv_iconst (v := (0 : Int32)) hx hb dX9_command_278 (by decide) ?_
          exact mu_zret hx hb hr hlocks rfl hP hS dX9_command_279 (by rw [m_X9_command, if_neg c_1, if_neg c_2, if_neg c_5, if_neg c_8, if_neg c_9, if_neg c_12, if_pos c_15, if_pos c_16, if_neg c_17, if_pos c_18]) (by rw [m_X9_command, if_neg c_1, if_neg c_2, if_neg c_5, if_neg c_8, if_neg c_9, if_neg c_12, if_pos c_15, if_pos c_16, if_neg c_17, if_pos c_18])
        · skip
          refine lv_aload_n hx hb dX9_command_255 rfl (lv_at hl 3 rfl) ?_
          refine va_get (D := D) (ci := 7) (v := .ref a3) (C := RX9) (T := TX9) (N := 11) hx hb hts in_X9 hown hG.1 hP 0 g_Mo_0 rfl 4 (by decide) k_0 (fun _ h9 => h9) rfl dX9_command_256 ?_
          refine lv_iload_n hx hb dX9_command_259 rfl (lv_at hl 2 rfl) ?_
          refine lv_iconst (v := (2 : Int32)) hx hb dX9_command_260 (by decide) ?_
          refine roS (wc := (wAr cy a3 (mW mo))) (As := [.ref a3, .int (x2 / (1000 : Int32)), .int (2 : Int32)]) (rest := []) (c_X9_of l D cy a3 (mW mo) (x2 / (1000 : Int32)) (2 : Int32) (iv_isUnit hW c_17) (iv_wide (l2 := 0) (h2 := 4) (iv_lit (v := 2) (by decide)) (by decide))) hCF gX9_command_X9_of rfl hd_X9_of ⟨rfl, rfl, Nat.le_of_ble_eq_true rfl, Nat.le_of_ble_eq_true rfl⟩ hG (hP.sub (ws' := (wAr cy a3 (mW mo))) [3] u_Mo_Ar3) rfl hl.1 rfl (Nat.le_of_ble_eq_true rfl) dX9_command_261 ⟨Nat.le_refl _, Nat.le_refl _⟩ ?_
          refine lv_iload_n hx hb dX9_command_264 rfl (lv_at hl 5 rfl) ?_
          refine lv_bipush (v := (100 : Int32)) hx hb dX9_command_265 (by decide) ?_
          refine lv_idiv hx hb dX9_command_267 (by decide) ?_
          refine lv_bipush (v := (10 : Int32)) hx hb dX9_command_268 (by decide) ?_
          refine lv_irem hx hb dX9_command_270 (by decide) ?_
          refine lv_icmp_ne (tgt := 278) hx hb dX9_command_271 (by decide) (fun c_19 => ?_) (fun c_19 => ?_)
          · skip
            refine lv_iconst (v := (0 : Int32)) hx hb dX9_command_278 (by decide) ?_
            exact mu_zret hx hb hr hlocks rfl hP hS dX9_command_279 (by rw [m_X9_command, if_neg c_1, if_neg c_2, if_neg c_5, if_neg c_8, if_neg c_9, if_neg c_12, if_pos c_15, if_pos c_16, if_neg c_17, if_neg c_18, if_neg c_19]) (by rw [m_X9_command, if_neg c_1, if_neg c_2, if_neg c_5, if_neg c_8, if_neg c_9, if_neg c_12, if_pos c_15, if_pos c_16, if_neg c_17, if_neg c_18, if_neg c_19])
          · skip
            refine lv_iconst (v := (1 : Int32)) hx hb dX9_command_274 (by decide) ?_
            refine lv_goto (tgt := 279) hx hb dX9_command_275 (by decide) ?_
            exact mu_zret hx hb hr hlocks rfl hP hS dX9_command_279 (by rw [m_X9_command, if_neg c_1, if_neg c_2, if_neg c_5, if_neg c_8, if_neg c_9, if_neg c_12, if_pos c_15, if_pos c_16, if_neg c_17, if_neg c_18, if_pos c_19]) (by rw [m_X9_command, if_neg c_1, if_neg c_2, if_neg c_5, if_neg c_8, if_neg c_9, if_neg c_12, if_pos c_15, if_pos c_16, if_neg c_17, if_neg c_18, if_pos c_19])
  by_cases c_20 : x1 = (8 : Int32)
  · refine lv_tableIn (tgt := 280) hx hb dX9_command_22 (by rw [c_20]; decide) (by rw [c_20]; decide) (by rw [c_20]; rfl) (by decide) ?_
    refine lv_iload hx hb dX9_command_280 (lv_at hl 0 rfl) ?_
    refine lv_if_ne (tgt := 328) hx hb dX9_command_282 (by decide) (fun c_21 => ?_) (fun c_21 => ?_)
    · skip
      refine lv_iconst (v := (0 : Int32)) hx hb dX9_command_328 (by decide) ?_
      exact mu_zret hx hb hr hlocks rfl hP hS dX9_command_329 (by rw [m_X9_command, if_neg c_1, if_neg c_2, if_neg c_5, if_neg c_8, if_neg c_9, if_neg c_12, if_neg c_15, if_pos c_20, if_neg c_21]) (by rw [m_X9_command, if_neg c_1, if_neg c_2, if_neg c_5, if_neg c_8, if_neg c_9, if_neg c_12, if_neg c_15, if_pos c_20, if_neg c_21])
    · skip
      refine lv_iload_n hx hb dX9_command_285 rfl (lv_at hl 5 rfl) ?_
      refine lv_sipush (v := (10000 : Int32)) hx hb dX9_command_286 (by decide) ?_
      refine lv_idiv hx hb dX9_command_289 (by decide) ?_
      refine roS (wc := ([] : va_W)) (As := [.int (x2 / (10000 : Int32))]) (rest := []) (c_X9_isHolder l D cy (x2 / (10000 : Int32))) hCF gX9_command_X9_isHolder rfl hd_X9_isHolder ⟨rfl, rfl, Nat.le_of_ble_eq_true rfl, Nat.le_of_ble_eq_true rfl⟩ hG va_P_nil rfl hl.1 rfl (Nat.le_of_ble_eq_true rfl) dX9_command_290 ⟨Nat.le_refl _, Nat.le_refl _⟩ ?_
      refine lv_if_eq (tgt := 328) hx hb dX9_command_293 (by decide) (fun c_22 => ?_) (fun c_22 => ?_)
      · skip
        refine lv_iconst (v := (0 : Int32)) hx hb dX9_command_328 (by decide) ?_
        exact mu_zret hx hb hr hlocks rfl hP hS dX9_command_329 (by rw [m_X9_command, if_neg c_1, if_neg c_2, if_neg c_5, if_neg c_8, if_neg c_9, if_neg c_12, if_neg c_15, if_pos c_20, if_pos c_21, if_pos c_22]) (by rw [m_X9_command, if_neg c_1, if_neg c_2, if_neg c_5, if_neg c_8, if_neg c_9, if_neg c_12, if_neg c_15, if_pos c_20, if_pos c_21, if_pos c_22])
      · skip
        refine lv_aload_n hx hb dX9_command_296 rfl (lv_at hl 3 rfl) ?_
        refine va_get (D := D) (ci := 7) (v := .ref a3) (C := RX9) (T := TX9) (N := 11) hx hb hts in_X9 hown hG.1 hP 0 g_Mo_0 rfl 4 (by decide) k_0 (fun _ h9 => h9) rfl dX9_command_297 ?_
        refine lv_bipush (v := (88 : Int32)) hx hb dX9_command_300 (by decide) ?_
        refine lv_iload_n hx hb dX9_command_302 rfl (lv_at hl 5 rfl) ?_
        refine lv_sipush (v := (10000 : Int32)) hx hb dX9_command_303 (by decide) ?_
        refine lv_idiv hx hb dX9_command_306 (by decide) ?_
        refine lv_iadd hx hb dX9_command_307 ?_
        refine va_iald hx hb hG.1 hP 3 0 (n := 383) (f := (mW mo)) g_Mo_3 rfl (iv_in (iv_add (l := 88) (h := 92) (iv_lit (v := 88) (by decide)) (iv_isHolder c_22) (by decide)) (by decide) (by decide)) dX9_command_308 ?_
        refine lv_iload_n hx hb dX9_command_309 rfl (lv_at hl 5 rfl) ?_
        refine lv_bipush (v := (10 : Int32)) hx hb dX9_command_310 (by decide) ?_
        refine lv_idiv hx hb dX9_command_312 (by decide) ?_
        refine lv_sipush (v := (1000 : Int32)) hx hb dX9_command_313 (by decide) ?_
        refine lv_irem hx hb dX9_command_316 (by decide) ?_
        refine lv_sipush (v := (500 : Int32)) hx hb dX9_command_317 (by decide) ?_
        refine lv_isub hx hb dX9_command_320 ?_
        refine lv_icmp_lt (tgt := 328) hx hb dX9_command_321 (by decide) (fun c_23 => ?_) (fun c_23 => ?_)
        · skip
          refine lv_iconst (v := (0 : Int32)) hx hb dX9_command_328 (by decide) ?_
          exact mu_zret hx hb hr hlocks rfl hP hS dX9_command_329 (by rw [m_X9_command, if_neg c_1, if_neg c_2, if_neg c_5, if_neg c_8, if_neg c_9, if_neg c_12, if_neg c_15, if_pos c_20, if_pos c_21, if_neg c_22, if_pos c_23]) (by rw [m_X9_command, if_neg c_1, if_neg c_2, if_neg c_5, if_neg c_8, if_neg c_9, if_neg c_12, if_neg c_15, if_pos c_20, if_pos c_21, if_neg c_22, if_pos c_23])
        · skip
          refine lv_iconst (v := (1 : Int32)) hx hb dX9_command_324 (by decide) ?_
          refine lv_goto (tgt := 329) hx hb dX9_command_325 (by decide) ?_
          exact mu_zret hx hb hr hlocks rfl hP hS dX9_command_329 (by rw [m_X9_command, if_neg c_1, if_neg c_2, if_neg c_5, if_neg c_8, if_neg c_9, if_neg c_12, if_neg c_15, if_pos c_20, if_pos c_21, if_neg c_22, if_neg c_23]) (by rw [m_X9_command, if_neg c_1, if_neg c_2, if_neg c_5, if_neg c_8, if_neg c_9, if_neg c_12, if_neg c_15, if_pos c_20, if_pos c_21, if_neg c_22, if_neg c_23])
  by_cases c_24 : x1 = (9 : Int32)
  · refine lv_tableIn (tgt := 330) hx hb dX9_command_22 (by rw [c_24]; decide) (by rw [c_24]; decide) (by rw [c_24]; rfl) (by decide) ?_
    refine lv_iload_n hx hb dX9_command_330 rfl (lv_at hl 5 rfl) ?_
    refine lv_bipush (v := (100 : Int32)) hx hb dX9_command_331 (by decide) ?_
    refine lv_icmp_ge (tgt := 351) hx hb dX9_command_333 (by decide) (fun c_25 => ?_) (fun c_25 => ?_)
    · skip
      refine lv_iconst (v := (0 : Int32)) hx hb dX9_command_351 (by decide) ?_
      exact mu_zret hx hb hr hlocks rfl hP hS dX9_command_352 (by rw [m_X9_command, if_neg c_1, if_neg c_2, if_neg c_5, if_neg c_8, if_neg c_9, if_neg c_12, if_neg c_15, if_neg c_20, if_pos c_24, if_pos c_25]) (by rw [m_X9_command, if_neg c_1, if_neg c_2, if_neg c_5, if_neg c_8, if_neg c_9, if_neg c_12, if_neg c_15, if_neg c_20, if_pos c_24, if_pos c_25])
    · skip
      refine lv_aload_n hx hb dX9_command_336 rfl (lv_at hl 3 rfl) ?_
      refine va_get (D := D) (ci := 7) (v := .ref a3) (C := RX9) (T := TX9) (N := 11) hx hb hts in_X9 hown hG.1 hP 0 g_Mo_0 rfl 4 (by decide) k_0 (fun _ h9 => h9) rfl dX9_command_337 ?_
      refine roS (wc := (wAr cy a3 (mW mo))) (As := [.ref a3]) (rest := []) (c_X9_usable l D cy a3 (mW mo) hW) hCF gX9_command_X9_usable rfl hd_X9_usable ⟨rfl, rfl, Nat.le_of_ble_eq_true rfl, Nat.le_of_ble_eq_true rfl⟩ hG (hP.sub (ws' := (wAr cy a3 (mW mo))) [3] u_Mo_Ar3) rfl hl.1 rfl (Nat.le_of_ble_eq_true rfl) dX9_command_340 ⟨Nat.le_refl _, Nat.le_refl _⟩ ?_
      refine lv_iload_n hx hb dX9_command_343 rfl (lv_at hl 5 rfl) ?_
      refine lv_icmp_lt (tgt := 351) hx hb dX9_command_344 (by decide) (fun c_26 => ?_) (fun c_26 => ?_)
      · skip
        refine lv_iconst (v := (0 : Int32)) hx hb dX9_command_351 (by decide) ?_
        exact mu_zret hx hb hr hlocks rfl hP hS dX9_command_352 (by rw [m_X9_command, if_neg c_1, if_neg c_2, if_neg c_5, if_neg c_8, if_neg c_9, if_neg c_12, if_neg c_15, if_neg c_20, if_pos c_24, if_neg c_25, if_pos c_26]) (by rw [m_X9_command, if_neg c_1, if_neg c_2, if_neg c_5, if_neg c_8, if_neg c_9, if_neg c_12, if_neg c_15, if_neg c_20, if_pos c_24, if_neg c_25, if_pos c_26])
      · skip
        refine lv_iconst (v := (1 : Int32)) hx hb dX9_command_347 (by decide) ?_
        refine lv_goto (tgt := 352) hx hb dX9_command_348 (by decide) ?_
        exact mu_zret hx hb hr hlocks rfl hP hS dX9_command_352 (by rw [m_X9_command, if_neg c_1, if_neg c_2, if_neg c_5, if_neg c_8, if_neg c_9, if_neg c_12, if_neg c_15, if_neg c_20, if_pos c_24, if_neg c_25, if_neg c_26]) (by rw [m_X9_command, if_neg c_1, if_neg c_2, if_neg c_5, if_neg c_8, if_neg c_9, if_neg c_12, if_neg c_15, if_neg c_20, if_pos c_24, if_neg c_25, if_neg c_26])
  · refine lv_tableOut (tgt := 353) hx hb dX9_command_22 (by have q_1 := lv_neT (a := 1) c_1 rfl; have q_2 := lv_neT (a := 2) c_2 rfl; have q_5 := lv_neT (a := 3) c_5 rfl; have q_8 := lv_neT (a := 4) c_8 rfl; have q_9 := lv_neT (a := 5) c_9 rfl; have q_12 := lv_neT (a := 6) c_12 rfl; have q_15 := lv_neT (a := 7) c_15 rfl; have q_20 := lv_neT (a := 8) c_20 rfl; have q_24 := lv_neT (a := 9) c_24 rfl; omega) (by decide) ?_
    refine lv_iconst (v := (0 : Int32)) hx hb dX9_command_353 (by decide) ?_
    exact mu_zret hx hb hr hlocks rfl hP hS dX9_command_354 (by rw [m_X9_command, if_neg c_1, if_neg c_2, if_neg c_5, if_neg c_8, if_neg c_9, if_neg c_12, if_neg c_15, if_neg c_20, if_neg c_24]) (by rw [m_X9_command, if_neg c_1, if_neg c_2, if_neg c_5, if_neg c_8, if_neg c_9, if_neg c_12, if_neg c_15, if_neg c_20, if_neg c_24])
def m_X9_turn (mo : MoT) (x1 : Int32) : MoT := if ((mW mo) (1 : Int32).toNatClampNeg) = (0 : Int32) then if (3 : Int32) ≤ (x1 - ((x1 / (16 : Int32)) * (16 : Int32))) then if (5 : Int32) ≤ (x1 - ((x1 / (16 : Int32)) * (16 : Int32))) then if (x1 - ((x1 / (16 : Int32)) * (16 : Int32))) = (5 : Int32) then mW' mo (m_X9_does (mW mo) (114 : Int32) ((x1 / (16 : Int32)) - (((x1 / (16 : Int32)) / (1 : Int32)) * (1 : Int32))) (0 : Int32) (0 : Int32)).2 else if (8 : Int32) ≤ (x1 - ((x1 / (16 : Int32)) * (16 : Int32))) then if (x1 - ((x1 / (16 : Int32)) * (16 : Int32))) = (8 : Int32) then mW' mo (m_X9_does (mW mo) (97 : Int32) ((x1 / (4096 : Int32)) - (((x1 / (4096 : Int32)) / (5 : Int32)) * (5 : Int32))) ((x1 / (256 : Int32)) - (((x1 / (256 : Int32)) / (1 : Int32)) * (1 : Int32))) ((1 : Int32) + ((x1 / (32768 : Int32)) - (((x1 / (32768 : Int32)) / (9 : Int32)) * (9 : Int32))))).2 else if (x1 - ((x1 / (16 : Int32)) * (16 : Int32))) = (9 : Int32) then mW' mo (m_X9_does (mW mo) (118 : Int32) ((x1 / (16 : Int32)) - (((x1 / (16 : Int32)) / (1 : Int32)) * (1 : Int32))) (0 : Int32) (0 : Int32)).2 else if (13 : Int32) ≤ (x1 - ((x1 / (16 : Int32)) * (16 : Int32))) then if (x1 - ((x1 / (16 : Int32)) * (16 : Int32))) = (13 : Int32) then mW' mo (m_X9_does (mW mo) (98 : Int32) ((x1 / (16 : Int32)) - (((x1 / (16 : Int32)) / (1 : Int32)) * (1 : Int32))) ((x1 / (32768 : Int32)) - (((x1 / (32768 : Int32)) / (3 : Int32)) * (3 : Int32))) (0 : Int32)).2 else if (x1 - ((x1 / (16 : Int32)) * (16 : Int32))) = (15 : Int32) then mW' mo (m_X9_does (mW mo) (100 : Int32) ((1 : Int32) + ((x1 / (32768 : Int32)) - (((x1 / (32768 : Int32)) / (9 : Int32)) * (9 : Int32)))) (0 : Int32) (0 : Int32)).2 else if (m_X9_whyNotSettle (mW mo) ((x1 / (4096 : Int32)) - (((x1 / (4096 : Int32)) / (5 : Int32)) * (5 : Int32))) ((x1 / (32768 : Int32)) - (((x1 / (32768 : Int32)) / (5 : Int32)) * (5 : Int32))) ((x1 / (16 : Int32)) - (((x1 / (16 : Int32)) / (3 : Int32)) * (3 : Int32))) ((x1 / (64 : Int32)) - (((x1 / (64 : Int32)) / (3 : Int32)) * (3 : Int32)))) = (0 : Int32) then mW' mo (m_X9_settleOn (mW mo) ((x1 / (4096 : Int32)) - (((x1 / (4096 : Int32)) / (5 : Int32)) * (5 : Int32))) ((x1 / (32768 : Int32)) - (((x1 / (32768 : Int32)) / (5 : Int32)) * (5 : Int32))) ((x1 / (16 : Int32)) - (((x1 / (16 : Int32)) / (3 : Int32)) * (3 : Int32))) ((x1 / (64 : Int32)) - (((x1 / (64 : Int32)) / (3 : Int32)) * (3 : Int32)))).2 else mo else mW' mo (m_X9_does (mW mo) (116 : Int32) ((x1 / (16 : Int32)) - (((x1 / (16 : Int32)) / (1 : Int32)) * (1 : Int32))) ((x1 / (256 : Int32)) - (((x1 / (256 : Int32)) / (1 : Int32)) * (1 : Int32))) ((x1 / (32768 : Int32)) - (((x1 / (32768 : Int32)) / (3 : Int32)) * (3 : Int32)))).2 else mW' mo (m_X9_does (mW mo) (120 : Int32) ((x1 / (16 : Int32)) - (((x1 / (16 : Int32)) / (1 : Int32)) * (1 : Int32))) ((x1 / (256 : Int32)) - (((x1 / (256 : Int32)) / (1 : Int32)) * (1 : Int32))) (0 : Int32)).2 else mW' mo (m_X9_does (mW mo) (108 : Int32) ((x1 / (16 : Int32)) - (((x1 / (16 : Int32)) / (1 : Int32)) * (1 : Int32))) ((x1 / (4096 : Int32)) - (((x1 / (4096 : Int32)) / (5 : Int32)) * (5 : Int32))) ((1 : Int32) + ((x1 / (32768 : Int32)) - (((x1 / (32768 : Int32)) / (9 : Int32)) * (9 : Int32))))).2 else mW' mo (m_X9_does (mW mo) (110 : Int32) ((x1 / (16 : Int32)) - (((x1 / (16 : Int32)) / (3 : Int32)) * (3 : Int32))) ((x1 / (4096 : Int32)) - (((x1 / (4096 : Int32)) / (5 : Int32)) * (5 : Int32))) ((x1 / (64 : Int32)) - (((x1 / (64 : Int32)) / (8 : Int32)) * (8 : Int32)))).2 else if (3 : Int32) ≤ (x1 - ((x1 / (16 : Int32)) * (16 : Int32))) then if (5 : Int32) ≤ (x1 - ((x1 / (16 : Int32)) * (16 : Int32))) then if (x1 - ((x1 / (16 : Int32)) * (16 : Int32))) = (5 : Int32) then mW' mo (m_X9_does (mW mo) (114 : Int32) ((x1 / (16 : Int32)) - (((x1 / (16 : Int32)) / ((mW mo) (1 : Int32).toNatClampNeg)) * ((mW mo) (1 : Int32).toNatClampNeg))) (0 : Int32) (0 : Int32)).2 else if (8 : Int32) ≤ (x1 - ((x1 / (16 : Int32)) * (16 : Int32))) then if (x1 - ((x1 / (16 : Int32)) * (16 : Int32))) = (8 : Int32) then mW' mo (m_X9_does (mW mo) (97 : Int32) ((x1 / (4096 : Int32)) - (((x1 / (4096 : Int32)) / (5 : Int32)) * (5 : Int32))) ((x1 / (256 : Int32)) - (((x1 / (256 : Int32)) / ((mW mo) (1 : Int32).toNatClampNeg)) * ((mW mo) (1 : Int32).toNatClampNeg))) ((1 : Int32) + ((x1 / (32768 : Int32)) - (((x1 / (32768 : Int32)) / (9 : Int32)) * (9 : Int32))))).2 else if (x1 - ((x1 / (16 : Int32)) * (16 : Int32))) = (9 : Int32) then mW' mo (m_X9_does (mW mo) (118 : Int32) ((x1 / (16 : Int32)) - (((x1 / (16 : Int32)) / ((mW mo) (1 : Int32).toNatClampNeg)) * ((mW mo) (1 : Int32).toNatClampNeg))) (0 : Int32) (0 : Int32)).2 else if (13 : Int32) ≤ (x1 - ((x1 / (16 : Int32)) * (16 : Int32))) then if (x1 - ((x1 / (16 : Int32)) * (16 : Int32))) = (13 : Int32) then mW' mo (m_X9_does (mW mo) (98 : Int32) ((x1 / (16 : Int32)) - (((x1 / (16 : Int32)) / ((mW mo) (1 : Int32).toNatClampNeg)) * ((mW mo) (1 : Int32).toNatClampNeg))) ((x1 / (32768 : Int32)) - (((x1 / (32768 : Int32)) / (3 : Int32)) * (3 : Int32))) (0 : Int32)).2 else if (x1 - ((x1 / (16 : Int32)) * (16 : Int32))) = (15 : Int32) then mW' mo (m_X9_does (mW mo) (100 : Int32) ((1 : Int32) + ((x1 / (32768 : Int32)) - (((x1 / (32768 : Int32)) / (9 : Int32)) * (9 : Int32)))) (0 : Int32) (0 : Int32)).2 else if (m_X9_whyNotSettle (mW mo) ((x1 / (4096 : Int32)) - (((x1 / (4096 : Int32)) / (5 : Int32)) * (5 : Int32))) ((x1 / (32768 : Int32)) - (((x1 / (32768 : Int32)) / (5 : Int32)) * (5 : Int32))) ((x1 / (16 : Int32)) - (((x1 / (16 : Int32)) / (3 : Int32)) * (3 : Int32))) ((x1 / (64 : Int32)) - (((x1 / (64 : Int32)) / (3 : Int32)) * (3 : Int32)))) = (0 : Int32) then mW' mo (m_X9_settleOn (mW mo) ((x1 / (4096 : Int32)) - (((x1 / (4096 : Int32)) / (5 : Int32)) * (5 : Int32))) ((x1 / (32768 : Int32)) - (((x1 / (32768 : Int32)) / (5 : Int32)) * (5 : Int32))) ((x1 / (16 : Int32)) - (((x1 / (16 : Int32)) / (3 : Int32)) * (3 : Int32))) ((x1 / (64 : Int32)) - (((x1 / (64 : Int32)) / (3 : Int32)) * (3 : Int32)))).2 else mo else mW' mo (m_X9_does (mW mo) (116 : Int32) ((x1 / (16 : Int32)) - (((x1 / (16 : Int32)) / ((mW mo) (1 : Int32).toNatClampNeg)) * ((mW mo) (1 : Int32).toNatClampNeg))) ((x1 / (256 : Int32)) - (((x1 / (256 : Int32)) / ((mW mo) (1 : Int32).toNatClampNeg)) * ((mW mo) (1 : Int32).toNatClampNeg))) ((x1 / (32768 : Int32)) - (((x1 / (32768 : Int32)) / (3 : Int32)) * (3 : Int32)))).2 else mW' mo (m_X9_does (mW mo) (120 : Int32) ((x1 / (16 : Int32)) - (((x1 / (16 : Int32)) / ((mW mo) (1 : Int32).toNatClampNeg)) * ((mW mo) (1 : Int32).toNatClampNeg))) ((x1 / (256 : Int32)) - (((x1 / (256 : Int32)) / ((mW mo) (1 : Int32).toNatClampNeg)) * ((mW mo) (1 : Int32).toNatClampNeg))) (0 : Int32)).2 else mW' mo (m_X9_does (mW mo) (108 : Int32) ((x1 / (16 : Int32)) - (((x1 / (16 : Int32)) / ((mW mo) (1 : Int32).toNatClampNeg)) * ((mW mo) (1 : Int32).toNatClampNeg))) ((x1 / (4096 : Int32)) - (((x1 / (4096 : Int32)) / (5 : Int32)) * (5 : Int32))) ((1 : Int32) + ((x1 / (32768 : Int32)) - (((x1 / (32768 : Int32)) / (9 : Int32)) * (9 : Int32))))).2 else mW' mo (m_X9_does (mW mo) (110 : Int32) ((x1 / (16 : Int32)) - (((x1 / (16 : Int32)) / (3 : Int32)) * (3 : Int32))) ((x1 / (4096 : Int32)) - (((x1 / (4096 : Int32)) / (5 : Int32)) * (5 : Int32))) ((x1 / (64 : Int32)) - (((x1 / (64 : Int32)) / (8 : Int32)) * (8 : Int32)))).2
theorem hd_X9_turn : yX9_turn.cls = RX9 ∧ yX9_turn.cls ≠ "java/lang/invoke/MethodHandle" ∧ yX9_turn.cls ≠ "java/lang/invoke/VarHandle" ∧ (parseMethodDescriptor yX9_turn.desc).map (fun d => d.parameters.length) = some 1 := by decide +kernel
set_option maxHeartbeats 8000000 in
set_option maxRecDepth 20000 in
theorem c_X9_turn (l : Launch) (D : va_G) (cy : Nat → ClassId) (a0 a1 a2 a3 a4 a5 a6 : Nat) (mo : MoT) (x1 : Int32) (hW : rOK (mW mo)) : MV l D cy yX9_turn wsX9_turn ({ frames := 5, cells := 0, slots := 0, locals := 115 } : Room) (wMo cy a0 a1 a2 a3 a4 a5 a6 mo) (wMo cy a0 a1 a2 a3 a4 a5 a6 (m_X9_turn mo x1)) [.ref a0, .int x1] := by
  refine MV.body (by decide) rfl (Nat.le_of_ble_eq_true rfl) ?_
  intro p e s m below meth c hx hb hml hr hts hown hlocks hP hG ls hl A hD hA hS
  have hl : lv_has ls 8 [(0, .ref a0), (1, .int x1)] := hl
  have hCF : CallFix p m c cX9_turn 8 s ([.ref a0, .int x1] : List Value).toArray wsX9_turn RX9 := ⟨hx, hb, hml, hown, hts⟩
  have in_X9 : ∀ w ∈ u_ws RX9 TX9 11, w ∈ wsX9_turn := fun _ h => List.mem_cons_of_mem _ (List.mem_append_right _ h)
  have k_0 := hts (Cond.fieldLink RX9 16 "SparePoolModel" "trial" "[I") (List.mem_of_getElem? (i := 1) rfl)
  have k_1 := hts (Cond.constant RX9 245 (32768)) (List.mem_of_getElem? (i := 2) rfl)
  have hP : va_P D vwCl (wMo cy a0 a1 a2 a3 a4 a5 a6 mo) s.heap := hP
  refine lv_aload_n hx hb dX9_turn_0 rfl (lv_at hl 0 rfl) ?_
  refine va_get (D := D) (ci := 7) (v := .ref a3) (C := RX9) (T := TX9) (N := 11) hx hb hts in_X9 hown hG.1 hP 0 g_Mo_0 rfl 4 (by decide) k_0 (fun _ h9 => h9) rfl dX9_turn_1 ?_
  refine lv_iconst (v := (1 : Int32)) hx hb dX9_turn_4 (by decide) ?_
  refine va_iald hx hb hG.1 hP 3 0 (n := 383) (f := (mW mo)) g_Mo_3 rfl (bd_of (by decide) (by decide)) dX9_turn_5 ?_
  refine lv_if_ne (tgt := 13) hx hb dX9_turn_6 (by decide) (fun c_1 => ?_) (fun c_1 => ?_)
  · skip
    refine lv_aload_n hx hb dX9_turn_13 rfl (lv_at hl 0 rfl) ?_
    refine va_get (D := D) (ci := 7) (v := .ref a3) (C := RX9) (T := TX9) (N := 11) hx hb hts in_X9 hown hG.1 hP 0 g_Mo_0 rfl 4 (by decide) k_0 (fun _ h9 => h9) rfl dX9_turn_14 ?_
    refine lv_iconst (v := (1 : Int32)) hx hb dX9_turn_17 (by decide) ?_
    refine va_iald hx hb hG.1 hP 3 0 (n := 383) (f := (mW mo)) g_Mo_3 rfl (bd_of (by decide) (by decide)) dX9_turn_18 ?_
    refine lv_istore_n (lv' := [(2, .int ((mW mo) (1 : Int32).toNatClampNeg)), (0, .ref a0), (1, .int x1)]) hx hb dX9_turn_19 rfl hl (by decide) rfl (fun ls hl => ?_)
    refine lv_iload_n hx hb dX9_turn_20 rfl (lv_at hl 2 rfl) ?_
    refine lv_bipush (v := (16 : Int32)) hx hb dX9_turn_21 (by decide) ?_
    refine lv_idiv hx hb dX9_turn_23 (by decide) ?_
    refine lv_iload_n hx hb dX9_turn_24 rfl (lv_at hl 0 rfl) ?_
    refine lv_irem hx hb dX9_turn_25 c_1 ?_
    refine lv_istore_n (lv' := [(3, .int ((x1 / (16 : Int32)) - (((x1 / (16 : Int32)) / ((mW mo) (1 : Int32).toNatClampNeg)) * ((mW mo) (1 : Int32).toNatClampNeg)))), (2, .int ((mW mo) (1 : Int32).toNatClampNeg)), (0, .ref a0), (1, .int x1)]) hx hb dX9_turn_26 rfl hl (by decide) rfl (fun ls hl => ?_)
    refine lv_iload_n hx hb dX9_turn_27 rfl (lv_at hl 3 rfl) ?_
    refine lv_sipush (v := (256 : Int32)) hx hb dX9_turn_28 (by decide) ?_
    refine lv_idiv hx hb dX9_turn_31 (by decide) ?_
    refine lv_iload_n hx hb dX9_turn_32 rfl (lv_at hl 1 rfl) ?_
    refine lv_irem hx hb dX9_turn_33 c_1 ?_
    refine lv_istore (lv' := [(4, .int ((x1 / (256 : Int32)) - (((x1 / (256 : Int32)) / ((mW mo) (1 : Int32).toNatClampNeg)) * ((mW mo) (1 : Int32).toNatClampNeg)))), (3, .int ((x1 / (16 : Int32)) - (((x1 / (16 : Int32)) / ((mW mo) (1 : Int32).toNatClampNeg)) * ((mW mo) (1 : Int32).toNatClampNeg)))), (2, .int ((mW mo) (1 : Int32).toNatClampNeg)), (0, .ref a0), (1, .int x1)]) hx hb dX9_turn_34 hl (by decide) rfl (fun ls hl => ?_)
    refine lv_iload_n hx hb dX9_turn_36 rfl (lv_at hl 4 rfl) ?_
    refine lv_sipush (v := (4096 : Int32)) hx hb dX9_turn_37 (by decide) ?_
    refine lv_idiv hx hb dX9_turn_40 (by decide) ?_
    refine lv_iconst (v := (5 : Int32)) hx hb dX9_turn_41 (by decide) ?_
    refine lv_irem hx hb dX9_turn_42 (by decide) ?_
    refine lv_istore (lv' := [(5, .int ((x1 / (4096 : Int32)) - (((x1 / (4096 : Int32)) / (5 : Int32)) * (5 : Int32)))), (4, .int ((x1 / (256 : Int32)) - (((x1 / (256 : Int32)) / ((mW mo) (1 : Int32).toNatClampNeg)) * ((mW mo) (1 : Int32).toNatClampNeg)))), (3, .int ((x1 / (16 : Int32)) - (((x1 / (16 : Int32)) / ((mW mo) (1 : Int32).toNatClampNeg)) * ((mW mo) (1 : Int32).toNatClampNeg)))), (2, .int ((mW mo) (1 : Int32).toNatClampNeg)), (0, .ref a0), (1, .int x1)]) hx hb dX9_turn_43 hl (by decide) rfl (fun ls hl => ?_)
    refine lv_iload_n hx hb dX9_turn_45 rfl (lv_at hl 5 rfl) ?_
    refine lv_ldc (v := (32768 : Int32)) hx hb hown k_1 dX9_turn_46 ?_
    refine lv_idiv hx hb dX9_turn_48 (by decide) ?_
    refine lv_istore (lv' := [(6, .int (x1 / (32768 : Int32))), (5, .int ((x1 / (4096 : Int32)) - (((x1 / (4096 : Int32)) / (5 : Int32)) * (5 : Int32)))), (4, .int ((x1 / (256 : Int32)) - (((x1 / (256 : Int32)) / ((mW mo) (1 : Int32).toNatClampNeg)) * ((mW mo) (1 : Int32).toNatClampNeg)))), (3, .int ((x1 / (16 : Int32)) - (((x1 / (16 : Int32)) / ((mW mo) (1 : Int32).toNatClampNeg)) * ((mW mo) (1 : Int32).toNatClampNeg)))), (2, .int ((mW mo) (1 : Int32).toNatClampNeg)), (0, .ref a0), (1, .int x1)]) hx hb dX9_turn_49 hl (by decide) rfl (fun ls hl => ?_)
    refine lv_iload_n hx hb dX9_turn_51 rfl (lv_at hl 6 rfl) ?_
    refine lv_bipush (v := (16 : Int32)) hx hb dX9_turn_52 (by decide) ?_
    refine lv_irem hx hb dX9_turn_54 (by decide) ?_
    refine lv_istore (lv' := [(7, .int (x1 - ((x1 / (16 : Int32)) * (16 : Int32)))), (6, .int (x1 / (32768 : Int32))), (5, .int ((x1 / (4096 : Int32)) - (((x1 / (4096 : Int32)) / (5 : Int32)) * (5 : Int32)))), (4, .int ((x1 / (256 : Int32)) - (((x1 / (256 : Int32)) / ((mW mo) (1 : Int32).toNatClampNeg)) * ((mW mo) (1 : Int32).toNatClampNeg)))), (3, .int ((x1 / (16 : Int32)) - (((x1 / (16 : Int32)) / ((mW mo) (1 : Int32).toNatClampNeg)) * ((mW mo) (1 : Int32).toNatClampNeg)))), (2, .int ((mW mo) (1 : Int32).toNatClampNeg)), (0, .ref a0), (1, .int x1)]) hx hb dX9_turn_55 hl (by decide) rfl (fun ls hl => ?_)
    refine lv_iload hx hb dX9_turn_57 (lv_at hl 0 rfl) ?_
    refine lv_iconst (v := (3 : Int32)) hx hb dX9_turn_59 (by decide) ?_
    refine lv_icmp_ge (tgt := 91) hx hb dX9_turn_60 (by decide) (fun c_2 => ?_) (fun c_2 => ?_)
    · skip
      refine lv_iload hx hb dX9_turn_91 (lv_at hl 0 rfl) ?_
      refine lv_iconst (v := (5 : Int32)) hx hb dX9_turn_93 (by decide) ?_
      refine lv_icmp_ge (tgt := 120) hx hb dX9_turn_94 (by decide) (fun c_3 => ?_) (fun c_3 => ?_)
      · skip
        refine lv_iload hx hb dX9_turn_120 (lv_at hl 0 rfl) ?_
        refine lv_iconst (v := (5 : Int32)) hx hb dX9_turn_122 (by decide) ?_
        refine lv_icmp_ne (tgt := 142) hx hb dX9_turn_123 (by decide) (fun c_4 => ?_) (fun c_4 => ?_)
        · skip
          refine lv_iload hx hb dX9_turn_142 (lv_at hl 0 rfl) ?_
          refine lv_bipush (v := (8 : Int32)) hx hb dX9_turn_144 (by decide) ?_
          refine lv_icmp_ge (tgt := 166) hx hb dX9_turn_146 (by decide) (fun c_5 => ?_) (fun c_5 => ?_)
          · skip
            refine lv_iload hx hb dX9_turn_166 (lv_at hl 0 rfl) ?_
            refine lv_bipush (v := (8 : Int32)) hx hb dX9_turn_168 (by decide) ?_
            refine lv_icmp_ne (tgt := 197) hx hb dX9_turn_170 (by decide) (fun c_6 => ?_) (fun c_6 => ?_)
            · skip
              refine lv_iload hx hb dX9_turn_197 (lv_at hl 0 rfl) ?_
              refine lv_bipush (v := (9 : Int32)) hx hb dX9_turn_199 (by decide) ?_
              refine lv_icmp_ne (tgt := 220) hx hb dX9_turn_201 (by decide) (fun c_7 => ?_) (fun c_7 => ?_)
              · skip
                refine lv_iload hx hb dX9_turn_220 (lv_at hl 0 rfl) ?_
                refine lv_bipush (v := (13 : Int32)) hx hb dX9_turn_222 (by decide) ?_
                refine lv_icmp_ge (tgt := 247) hx hb dX9_turn_224 (by decide) (fun c_8 => ?_) (fun c_8 => ?_)
                · skip
                  refine lv_iload hx hb dX9_turn_247 (lv_at hl 0 rfl) ?_
                  refine lv_bipush (v := (13 : Int32)) hx hb dX9_turn_249 (by decide) ?_
                  refine lv_icmp_ne (tgt := 273) hx hb dX9_turn_251 (by decide) (fun c_9 => ?_) (fun c_9 => ?_)
                  · skip
                    refine lv_iload hx hb dX9_turn_273 (lv_at hl 0 rfl) ?_
                    refine lv_bipush (v := (15 : Int32)) hx hb dX9_turn_275 (by decide) ?_
                    refine lv_icmp_ne (tgt := 302) hx hb dX9_turn_277 (by decide) (fun c_10 => ?_) (fun c_10 => ?_)
                    · skip
                      refine lv_aload_n hx hb dX9_turn_302 rfl (lv_at hl 6 rfl) ?_
                      refine va_get (D := D) (ci := 7) (v := .ref a3) (C := RX9) (T := TX9) (N := 11) hx hb hts in_X9 hown hG.1 hP 0 g_Mo_0 rfl 4 (by decide) k_0 (fun _ h9 => h9) rfl dX9_turn_303 ?_
                      refine lv_iload hx hb dX9_turn_306 (lv_at hl 2 rfl) ?_
                      refine lv_iload hx hb dX9_turn_308 (lv_at hl 1 rfl) ?_
                      refine lv_iconst (v := (5 : Int32)) hx hb dX9_turn_310 (by decide) ?_
                      refine lv_irem hx hb dX9_turn_311 (by decide) ?_
                      refine lv_iload_n hx hb dX9_turn_312 rfl (lv_at hl 7 rfl) ?_
                      refine lv_bipush (v := (16 : Int32)) hx hb dX9_turn_313 (by decide) ?_
                      refine lv_idiv hx hb dX9_turn_315 (by decide) ?_
                      refine lv_iconst (v := (3 : Int32)) hx hb dX9_turn_316 (by decide) ?_
                      refine lv_irem hx hb dX9_turn_317 (by decide) ?_
                      refine lv_iload_n hx hb dX9_turn_318 rfl (lv_at hl 7 rfl) ?_
                      refine lv_bipush (v := (64 : Int32)) hx hb dX9_turn_319 (by decide) ?_
                      refine lv_idiv hx hb dX9_turn_321 (by decide) ?_
                      refine lv_iconst (v := (3 : Int32)) hx hb dX9_turn_322 (by decide) ?_
                      refine lv_irem hx hb dX9_turn_323 (by decide) ?_
                      refine roS (wc := (wAr cy a3 (mW mo))) (As := [.ref a3, .int ((x1 / (4096 : Int32)) - (((x1 / (4096 : Int32)) / (5 : Int32)) * (5 : Int32))), .int ((x1 / (32768 : Int32)) - (((x1 / (32768 : Int32)) / (5 : Int32)) * (5 : Int32))), .int ((x1 / (16 : Int32)) - (((x1 / (16 : Int32)) / (3 : Int32)) * (3 : Int32))), .int ((x1 / (64 : Int32)) - (((x1 / (64 : Int32)) / (3 : Int32)) * (3 : Int32)))]) (rest := []) (c_X9_whyNotSettle l D cy a3 (mW mo) ((x1 / (4096 : Int32)) - (((x1 / (4096 : Int32)) / (5 : Int32)) * (5 : Int32))) ((x1 / (32768 : Int32)) - (((x1 / (32768 : Int32)) / (5 : Int32)) * (5 : Int32))) ((x1 / (16 : Int32)) - (((x1 / (16 : Int32)) / (3 : Int32)) * (3 : Int32))) ((x1 / (64 : Int32)) - (((x1 / (64 : Int32)) / (3 : Int32)) * (3 : Int32)))) hCF gX9_turn_X9_whyNotSettle rfl hd_X9_whyNotSettle ⟨rfl, rfl, Nat.le_of_ble_eq_true rfl, Nat.le_of_ble_eq_true rfl⟩ hG (hP.sub (ws' := (wAr cy a3 (mW mo))) [3] u_Mo_Ar3) rfl hl.1 rfl (Nat.le_of_ble_eq_true rfl) dX9_turn_324 ⟨Nat.le_refl _, Nat.le_refl _⟩ ?_
                      refine lv_if_ne (tgt := 356) hx hb dX9_turn_327 (by decide) (fun c_11 => ?_) (fun c_11 => ?_)
                      · skip
                        exact mu_vret hx hb hr hlocks hP hS dX9_turn_356 (by rw [m_X9_turn, if_neg c_1, if_pos c_2, if_pos c_3, if_neg c_4, if_pos c_5, if_neg c_6, if_neg c_7, if_pos c_8, if_neg c_9, if_neg c_10, if_neg c_11])
                      · skip
                        refine lv_aload_n hx hb dX9_turn_330 rfl (lv_at hl 6 rfl) ?_
                        refine va_get (D := D) (ci := 7) (v := .ref a3) (C := RX9) (T := TX9) (N := 11) hx hb hts in_X9 hown hG.1 hP 0 g_Mo_0 rfl 4 (by decide) k_0 (fun _ h9 => h9) rfl dX9_turn_331 ?_
                        refine lv_iload hx hb dX9_turn_334 (lv_at hl 2 rfl) ?_
                        refine lv_iload hx hb dX9_turn_336 (lv_at hl 1 rfl) ?_
                        refine lv_iconst (v := (5 : Int32)) hx hb dX9_turn_338 (by decide) ?_
                        refine lv_irem hx hb dX9_turn_339 (by decide) ?_
                        refine lv_iload_n hx hb dX9_turn_340 rfl (lv_at hl 7 rfl) ?_
                        refine lv_bipush (v := (16 : Int32)) hx hb dX9_turn_341 (by decide) ?_
                        refine lv_idiv hx hb dX9_turn_343 (by decide) ?_
                        refine lv_iconst (v := (3 : Int32)) hx hb dX9_turn_344 (by decide) ?_
                        refine lv_irem hx hb dX9_turn_345 (by decide) ?_
                        refine lv_iload_n hx hb dX9_turn_346 rfl (lv_at hl 7 rfl) ?_
                        refine lv_bipush (v := (64 : Int32)) hx hb dX9_turn_347 (by decide) ?_
                        refine lv_idiv hx hb dX9_turn_349 (by decide) ?_
                        refine lv_iconst (v := (3 : Int32)) hx hb dX9_turn_350 (by decide) ?_
                        refine lv_irem hx hb dX9_turn_351 (by decide) ?_
                        refine muS (A0 := A) (wc := (wAr cy a3 (mW mo))) (As := [.ref a3, .int ((x1 / (4096 : Int32)) - (((x1 / (4096 : Int32)) / (5 : Int32)) * (5 : Int32))), .int ((x1 / (32768 : Int32)) - (((x1 / (32768 : Int32)) / (5 : Int32)) * (5 : Int32))), .int ((x1 / (16 : Int32)) - (((x1 / (16 : Int32)) / (3 : Int32)) * (3 : Int32))), .int ((x1 / (64 : Int32)) - (((x1 / (64 : Int32)) / (3 : Int32)) * (3 : Int32)))]) (rest := []) (c_X9_settleOn l D cy a3 (mW mo) ((x1 / (4096 : Int32)) - (((x1 / (4096 : Int32)) / (5 : Int32)) * (5 : Int32))) ((x1 / (32768 : Int32)) - (((x1 / (32768 : Int32)) / (5 : Int32)) * (5 : Int32))) ((x1 / (16 : Int32)) - (((x1 / (16 : Int32)) / (3 : Int32)) * (3 : Int32))) ((x1 / (64 : Int32)) - (((x1 / (64 : Int32)) / (3 : Int32)) * (3 : Int32))) (wn_Settle_0 hW c_11) (wn_Settle_1 hW c_11) (wn_Settle_2 hW c_11) (wn_Settle_3 hW c_11)) hCF gX9_turn_X9_settleOn rfl hd_X9_settleOn ⟨rfl, rfl, Nat.le_of_ble_eq_true rfl, Nat.le_of_ble_eq_true rfl⟩ hG hP hD hS hA [3] rfl c_Mo_Ar3 h_Ar rfl hl.1 rfl (Nat.le_of_ble_eq_true rfl) dX9_turn_352 ⟨Nat.le_refl _, Nat.le_refl _⟩ (fun H locs hP hD hS => ?_)
                        have hP : va_P D vwCl (wMo cy a0 a1 a2 a3 a4 a5 a6 (mW' mo (m_X9_settleOn (mW mo) ((x1 / (4096 : Int32)) - (((x1 / (4096 : Int32)) / (5 : Int32)) * (5 : Int32))) ((x1 / (32768 : Int32)) - (((x1 / (32768 : Int32)) / (5 : Int32)) * (5 : Int32))) ((x1 / (16 : Int32)) - (((x1 / (16 : Int32)) / (3 : Int32)) * (3 : Int32))) ((x1 / (64 : Int32)) - (((x1 / (64 : Int32)) / (3 : Int32)) * (3 : Int32)))).2)) H := va_P_eq hP r_Mo_Ar3
                        have hD : va_D A (wMo cy a0 a1 a2 a3 a4 a5 a6 (mW' mo (m_X9_settleOn (mW mo) ((x1 / (4096 : Int32)) - (((x1 / (4096 : Int32)) / (5 : Int32)) * (5 : Int32))) ((x1 / (32768 : Int32)) - (((x1 / (32768 : Int32)) / (5 : Int32)) * (5 : Int32))) ((x1 / (16 : Int32)) - (((x1 / (16 : Int32)) / (3 : Int32)) * (3 : Int32))) ((x1 / (64 : Int32)) - (((x1 / (64 : Int32)) / (3 : Int32)) * (3 : Int32)))).2)) := va_D_eq hD r_Mo_Ar3
                        refine lv_pop hx hb dX9_turn_355 rfl ?_
                        exact mu_vret hx hb hr hlocks hP hS dX9_turn_356 (by rw [m_X9_turn, if_neg c_1, if_pos c_2, if_pos c_3, if_neg c_4, if_pos c_5, if_neg c_6, if_neg c_7, if_pos c_8, if_neg c_9, if_neg c_10, if_pos c_11])
                    · skip
                      refine lv_aload_n hx hb dX9_turn_280 rfl (lv_at hl 6 rfl) ?_
                      refine va_get (D := D) (ci := 7) (v := .ref a3) (C := RX9) (T := TX9) (N := 11) hx hb hts in_X9 hown hG.1 hP 0 g_Mo_0 rfl 4 (by decide) k_0 (fun _ h9 => h9) rfl dX9_turn_281 ?_
                      refine lv_bipush (v := (100 : Int32)) hx hb dX9_turn_284 (by decide) ?_
                      refine lv_iconst (v := (1 : Int32)) hx hb dX9_turn_286 (by decide) ?_
                      refine lv_iload hx hb dX9_turn_287 (lv_at hl 1 rfl) ?_
                      refine lv_bipush (v := (9 : Int32)) hx hb dX9_turn_289 (by decide) ?_
                      refine lv_irem hx hb dX9_turn_291 (by decide) ?_
                      refine lv_iadd hx hb dX9_turn_292 ?_
                      refine lv_iconst (v := (0 : Int32)) hx hb dX9_turn_293 (by decide) ?_
                      refine lv_iconst (v := (0 : Int32)) hx hb dX9_turn_294 (by decide) ?_
                      refine muS (A0 := A) (wc := (wAr cy a3 (mW mo))) (As := [.ref a3, .int (100 : Int32), .int ((1 : Int32) + ((x1 / (32768 : Int32)) - (((x1 / (32768 : Int32)) / (9 : Int32)) * (9 : Int32)))), .int (0 : Int32), .int (0 : Int32)]) (rest := []) (c_X9_does l D cy a3 (mW mo) (100 : Int32) ((1 : Int32) + ((x1 / (32768 : Int32)) - (((x1 / (32768 : Int32)) / (9 : Int32)) * (9 : Int32)))) (0 : Int32) (0 : Int32) hW) hCF gX9_turn_X9_does rfl hd_X9_does ⟨rfl, rfl, Nat.le_of_ble_eq_true rfl, Nat.le_of_ble_eq_true rfl⟩ hG hP hD hS hA [3] rfl c_Mo_Ar3 h_Ar rfl hl.1 rfl (Nat.le_of_ble_eq_true rfl) dX9_turn_295 ⟨Nat.le_refl _, Nat.le_refl _⟩ (fun H locs hP hD hS => ?_)
                      have hP : va_P D vwCl (wMo cy a0 a1 a2 a3 a4 a5 a6 (mW' mo (m_X9_does (mW mo) (100 : Int32) ((1 : Int32) + ((x1 / (32768 : Int32)) - (((x1 / (32768 : Int32)) / (9 : Int32)) * (9 : Int32)))) (0 : Int32) (0 : Int32)).2)) H := va_P_eq hP r_Mo_Ar3
                      have hD : va_D A (wMo cy a0 a1 a2 a3 a4 a5 a6 (mW' mo (m_X9_does (mW mo) (100 : Int32) ((1 : Int32) + ((x1 / (32768 : Int32)) - (((x1 / (32768 : Int32)) / (9 : Int32)) * (9 : Int32)))) (0 : Int32) (0 : Int32)).2)) := va_D_eq hD r_Mo_Ar3
                      refine lv_pop hx hb dX9_turn_298 rfl ?_
                      refine lv_goto (tgt := 356) hx hb dX9_turn_299 (by decide) ?_
                      exact mu_vret hx hb hr hlocks hP hS dX9_turn_356 (by rw [m_X9_turn, if_neg c_1, if_pos c_2, if_pos c_3, if_neg c_4, if_pos c_5, if_neg c_6, if_neg c_7, if_pos c_8, if_neg c_9, if_pos c_10])
                  · skip
                    refine lv_aload_n hx hb dX9_turn_254 rfl (lv_at hl 6 rfl) ?_
                    refine va_get (D := D) (ci := 7) (v := .ref a3) (C := RX9) (T := TX9) (N := 11) hx hb hts in_X9 hown hG.1 hP 0 g_Mo_0 rfl 4 (by decide) k_0 (fun _ h9 => h9) rfl dX9_turn_255 ?_
                    refine lv_bipush (v := (98 : Int32)) hx hb dX9_turn_258 (by decide) ?_
                    refine lv_iload_n hx hb dX9_turn_260 rfl (lv_at hl 4 rfl) ?_
                    refine lv_iload hx hb dX9_turn_261 (lv_at hl 1 rfl) ?_
                    refine lv_iconst (v := (3 : Int32)) hx hb dX9_turn_263 (by decide) ?_
                    refine lv_irem hx hb dX9_turn_264 (by decide) ?_
                    refine lv_iconst (v := (0 : Int32)) hx hb dX9_turn_265 (by decide) ?_
                    refine muS (A0 := A) (wc := (wAr cy a3 (mW mo))) (As := [.ref a3, .int (98 : Int32), .int ((x1 / (16 : Int32)) - (((x1 / (16 : Int32)) / ((mW mo) (1 : Int32).toNatClampNeg)) * ((mW mo) (1 : Int32).toNatClampNeg))), .int ((x1 / (32768 : Int32)) - (((x1 / (32768 : Int32)) / (3 : Int32)) * (3 : Int32))), .int (0 : Int32)]) (rest := []) (c_X9_does l D cy a3 (mW mo) (98 : Int32) ((x1 / (16 : Int32)) - (((x1 / (16 : Int32)) / ((mW mo) (1 : Int32).toNatClampNeg)) * ((mW mo) (1 : Int32).toNatClampNeg))) ((x1 / (32768 : Int32)) - (((x1 / (32768 : Int32)) / (3 : Int32)) * (3 : Int32))) (0 : Int32) hW) hCF gX9_turn_X9_does rfl hd_X9_does ⟨rfl, rfl, Nat.le_of_ble_eq_true rfl, Nat.le_of_ble_eq_true rfl⟩ hG hP hD hS hA [3] rfl c_Mo_Ar3 h_Ar rfl hl.1 rfl (Nat.le_of_ble_eq_true rfl) dX9_turn_266 ⟨Nat.le_refl _, Nat.le_refl _⟩ (fun H locs hP hD hS => ?_)
                    have hP : va_P D vwCl (wMo cy a0 a1 a2 a3 a4 a5 a6 (mW' mo (m_X9_does (mW mo) (98 : Int32) ((x1 / (16 : Int32)) - (((x1 / (16 : Int32)) / ((mW mo) (1 : Int32).toNatClampNeg)) * ((mW mo) (1 : Int32).toNatClampNeg))) ((x1 / (32768 : Int32)) - (((x1 / (32768 : Int32)) / (3 : Int32)) * (3 : Int32))) (0 : Int32)).2)) H := va_P_eq hP r_Mo_Ar3
                    have hD : va_D A (wMo cy a0 a1 a2 a3 a4 a5 a6 (mW' mo (m_X9_does (mW mo) (98 : Int32) ((x1 / (16 : Int32)) - (((x1 / (16 : Int32)) / ((mW mo) (1 : Int32).toNatClampNeg)) * ((mW mo) (1 : Int32).toNatClampNeg))) ((x1 / (32768 : Int32)) - (((x1 / (32768 : Int32)) / (3 : Int32)) * (3 : Int32))) (0 : Int32)).2)) := va_D_eq hD r_Mo_Ar3
                    refine lv_pop hx hb dX9_turn_269 rfl ?_
                    refine lv_goto (tgt := 356) hx hb dX9_turn_270 (by decide) ?_
                    exact mu_vret hx hb hr hlocks hP hS dX9_turn_356 (by rw [m_X9_turn, if_neg c_1, if_pos c_2, if_pos c_3, if_neg c_4, if_pos c_5, if_neg c_6, if_neg c_7, if_pos c_8, if_pos c_9])
                · skip
                  refine lv_aload_n hx hb dX9_turn_227 rfl (lv_at hl 6 rfl) ?_
                  refine va_get (D := D) (ci := 7) (v := .ref a3) (C := RX9) (T := TX9) (N := 11) hx hb hts in_X9 hown hG.1 hP 0 g_Mo_0 rfl 4 (by decide) k_0 (fun _ h9 => h9) rfl dX9_turn_228 ?_
                  refine lv_bipush (v := (116 : Int32)) hx hb dX9_turn_231 (by decide) ?_
                  refine lv_iload_n hx hb dX9_turn_233 rfl (lv_at hl 4 rfl) ?_
                  refine lv_iload hx hb dX9_turn_234 (lv_at hl 3 rfl) ?_
                  refine lv_iload hx hb dX9_turn_236 (lv_at hl 1 rfl) ?_
                  refine lv_iconst (v := (3 : Int32)) hx hb dX9_turn_238 (by decide) ?_
                  refine lv_irem hx hb dX9_turn_239 (by decide) ?_
                  refine muS (A0 := A) (wc := (wAr cy a3 (mW mo))) (As := [.ref a3, .int (116 : Int32), .int ((x1 / (16 : Int32)) - (((x1 / (16 : Int32)) / ((mW mo) (1 : Int32).toNatClampNeg)) * ((mW mo) (1 : Int32).toNatClampNeg))), .int ((x1 / (256 : Int32)) - (((x1 / (256 : Int32)) / ((mW mo) (1 : Int32).toNatClampNeg)) * ((mW mo) (1 : Int32).toNatClampNeg))), .int ((x1 / (32768 : Int32)) - (((x1 / (32768 : Int32)) / (3 : Int32)) * (3 : Int32)))]) (rest := []) (c_X9_does l D cy a3 (mW mo) (116 : Int32) ((x1 / (16 : Int32)) - (((x1 / (16 : Int32)) / ((mW mo) (1 : Int32).toNatClampNeg)) * ((mW mo) (1 : Int32).toNatClampNeg))) ((x1 / (256 : Int32)) - (((x1 / (256 : Int32)) / ((mW mo) (1 : Int32).toNatClampNeg)) * ((mW mo) (1 : Int32).toNatClampNeg))) ((x1 / (32768 : Int32)) - (((x1 / (32768 : Int32)) / (3 : Int32)) * (3 : Int32))) hW) hCF gX9_turn_X9_does rfl hd_X9_does ⟨rfl, rfl, Nat.le_of_ble_eq_true rfl, Nat.le_of_ble_eq_true rfl⟩ hG hP hD hS hA [3] rfl c_Mo_Ar3 h_Ar rfl hl.1 rfl (Nat.le_of_ble_eq_true rfl) dX9_turn_240 ⟨Nat.le_refl _, Nat.le_refl _⟩ (fun H locs hP hD hS => ?_)
                  have hP : va_P D vwCl (wMo cy a0 a1 a2 a3 a4 a5 a6 (mW' mo (m_X9_does (mW mo) (116 : Int32) ((x1 / (16 : Int32)) - (((x1 / (16 : Int32)) / ((mW mo) (1 : Int32).toNatClampNeg)) * ((mW mo) (1 : Int32).toNatClampNeg))) ((x1 / (256 : Int32)) - (((x1 / (256 : Int32)) / ((mW mo) (1 : Int32).toNatClampNeg)) * ((mW mo) (1 : Int32).toNatClampNeg))) ((x1 / (32768 : Int32)) - (((x1 / (32768 : Int32)) / (3 : Int32)) * (3 : Int32)))).2)) H := va_P_eq hP r_Mo_Ar3
                  have hD : va_D A (wMo cy a0 a1 a2 a3 a4 a5 a6 (mW' mo (m_X9_does (mW mo) (116 : Int32) ((x1 / (16 : Int32)) - (((x1 / (16 : Int32)) / ((mW mo) (1 : Int32).toNatClampNeg)) * ((mW mo) (1 : Int32).toNatClampNeg))) ((x1 / (256 : Int32)) - (((x1 / (256 : Int32)) / ((mW mo) (1 : Int32).toNatClampNeg)) * ((mW mo) (1 : Int32).toNatClampNeg))) ((x1 / (32768 : Int32)) - (((x1 / (32768 : Int32)) / (3 : Int32)) * (3 : Int32)))).2)) := va_D_eq hD r_Mo_Ar3
                  refine lv_pop hx hb dX9_turn_243 rfl ?_
                  refine lv_goto (tgt := 356) hx hb dX9_turn_244 (by decide) ?_
                  exact mu_vret hx hb hr hlocks hP hS dX9_turn_356 (by rw [m_X9_turn, if_neg c_1, if_pos c_2, if_pos c_3, if_neg c_4, if_pos c_5, if_neg c_6, if_neg c_7, if_neg c_8])
              · skip
                refine lv_aload_n hx hb dX9_turn_204 rfl (lv_at hl 6 rfl) ?_
                refine va_get (D := D) (ci := 7) (v := .ref a3) (C := RX9) (T := TX9) (N := 11) hx hb hts in_X9 hown hG.1 hP 0 g_Mo_0 rfl 4 (by decide) k_0 (fun _ h9 => h9) rfl dX9_turn_205 ?_
                refine lv_bipush (v := (118 : Int32)) hx hb dX9_turn_208 (by decide) ?_
                refine lv_iload_n hx hb dX9_turn_210 rfl (lv_at hl 4 rfl) ?_
                refine lv_iconst (v := (0 : Int32)) hx hb dX9_turn_211 (by decide) ?_
                refine lv_iconst (v := (0 : Int32)) hx hb dX9_turn_212 (by decide) ?_
                refine muS (A0 := A) (wc := (wAr cy a3 (mW mo))) (As := [.ref a3, .int (118 : Int32), .int ((x1 / (16 : Int32)) - (((x1 / (16 : Int32)) / ((mW mo) (1 : Int32).toNatClampNeg)) * ((mW mo) (1 : Int32).toNatClampNeg))), .int (0 : Int32), .int (0 : Int32)]) (rest := []) (c_X9_does l D cy a3 (mW mo) (118 : Int32) ((x1 / (16 : Int32)) - (((x1 / (16 : Int32)) / ((mW mo) (1 : Int32).toNatClampNeg)) * ((mW mo) (1 : Int32).toNatClampNeg))) (0 : Int32) (0 : Int32) hW) hCF gX9_turn_X9_does rfl hd_X9_does ⟨rfl, rfl, Nat.le_of_ble_eq_true rfl, Nat.le_of_ble_eq_true rfl⟩ hG hP hD hS hA [3] rfl c_Mo_Ar3 h_Ar rfl hl.1 rfl (Nat.le_of_ble_eq_true rfl) dX9_turn_213 ⟨Nat.le_refl _, Nat.le_refl _⟩ (fun H locs hP hD hS => ?_)
                have hP : va_P D vwCl (wMo cy a0 a1 a2 a3 a4 a5 a6 (mW' mo (m_X9_does (mW mo) (118 : Int32) ((x1 / (16 : Int32)) - (((x1 / (16 : Int32)) / ((mW mo) (1 : Int32).toNatClampNeg)) * ((mW mo) (1 : Int32).toNatClampNeg))) (0 : Int32) (0 : Int32)).2)) H := va_P_eq hP r_Mo_Ar3
                have hD : va_D A (wMo cy a0 a1 a2 a3 a4 a5 a6 (mW' mo (m_X9_does (mW mo) (118 : Int32) ((x1 / (16 : Int32)) - (((x1 / (16 : Int32)) / ((mW mo) (1 : Int32).toNatClampNeg)) * ((mW mo) (1 : Int32).toNatClampNeg))) (0 : Int32) (0 : Int32)).2)) := va_D_eq hD r_Mo_Ar3
                refine lv_pop hx hb dX9_turn_216 rfl ?_
                refine lv_goto (tgt := 356) hx hb dX9_turn_217 (by decide) ?_
                exact mu_vret hx hb hr hlocks hP hS dX9_turn_356 (by rw [m_X9_turn, if_neg c_1, if_pos c_2, if_pos c_3, if_neg c_4, if_pos c_5, if_neg c_6, if_pos c_7])
            · skip
              refine lv_aload_n hx hb dX9_turn_173 rfl (lv_at hl 6 rfl) ?_
              refine va_get (D := D) (ci := 7) (v := .ref a3) (C := RX9) (T := TX9) (N := 11) hx hb hts in_X9 hown hG.1 hP 0 g_Mo_0 rfl 4 (by decide) k_0 (fun _ h9 => h9) rfl dX9_turn_174 ?_
              refine lv_bipush (v := (97 : Int32)) hx hb dX9_turn_177 (by decide) ?_
              refine lv_iload hx hb dX9_turn_179 (lv_at hl 2 rfl) ?_
              refine lv_iload hx hb dX9_turn_181 (lv_at hl 3 rfl) ?_
              refine lv_iconst (v := (1 : Int32)) hx hb dX9_turn_183 (by decide) ?_
              refine lv_iload hx hb dX9_turn_184 (lv_at hl 1 rfl) ?_
              refine lv_bipush (v := (9 : Int32)) hx hb dX9_turn_186 (by decide) ?_
              refine lv_irem hx hb dX9_turn_188 (by decide) ?_
              refine lv_iadd hx hb dX9_turn_189 ?_
              refine muS (A0 := A) (wc := (wAr cy a3 (mW mo))) (As := [.ref a3, .int (97 : Int32), .int ((x1 / (4096 : Int32)) - (((x1 / (4096 : Int32)) / (5 : Int32)) * (5 : Int32))), .int ((x1 / (256 : Int32)) - (((x1 / (256 : Int32)) / ((mW mo) (1 : Int32).toNatClampNeg)) * ((mW mo) (1 : Int32).toNatClampNeg))), .int ((1 : Int32) + ((x1 / (32768 : Int32)) - (((x1 / (32768 : Int32)) / (9 : Int32)) * (9 : Int32))))]) (rest := []) (c_X9_does l D cy a3 (mW mo) (97 : Int32) ((x1 / (4096 : Int32)) - (((x1 / (4096 : Int32)) / (5 : Int32)) * (5 : Int32))) ((x1 / (256 : Int32)) - (((x1 / (256 : Int32)) / ((mW mo) (1 : Int32).toNatClampNeg)) * ((mW mo) (1 : Int32).toNatClampNeg))) ((1 : Int32) + ((x1 / (32768 : Int32)) - (((x1 / (32768 : Int32)) / (9 : Int32)) * (9 : Int32)))) hW) hCF gX9_turn_X9_does rfl hd_X9_does ⟨rfl, rfl, Nat.le_of_ble_eq_true rfl, Nat.le_of_ble_eq_true rfl⟩ hG hP hD hS hA [3] rfl c_Mo_Ar3 h_Ar rfl hl.1 rfl (Nat.le_of_ble_eq_true rfl) dX9_turn_190 ⟨Nat.le_refl _, Nat.le_refl _⟩ (fun H locs hP hD hS => ?_)
              have hP : va_P D vwCl (wMo cy a0 a1 a2 a3 a4 a5 a6 (mW' mo (m_X9_does (mW mo) (97 : Int32) ((x1 / (4096 : Int32)) - (((x1 / (4096 : Int32)) / (5 : Int32)) * (5 : Int32))) ((x1 / (256 : Int32)) - (((x1 / (256 : Int32)) / ((mW mo) (1 : Int32).toNatClampNeg)) * ((mW mo) (1 : Int32).toNatClampNeg))) ((1 : Int32) + ((x1 / (32768 : Int32)) - (((x1 / (32768 : Int32)) / (9 : Int32)) * (9 : Int32))))).2)) H := va_P_eq hP r_Mo_Ar3
              have hD : va_D A (wMo cy a0 a1 a2 a3 a4 a5 a6 (mW' mo (m_X9_does (mW mo) (97 : Int32) ((x1 / (4096 : Int32)) - (((x1 / (4096 : Int32)) / (5 : Int32)) * (5 : Int32))) ((x1 / (256 : Int32)) - (((x1 / (256 : Int32)) / ((mW mo) (1 : Int32).toNatClampNeg)) * ((mW mo) (1 : Int32).toNatClampNeg))) ((1 : Int32) + ((x1 / (32768 : Int32)) - (((x1 / (32768 : Int32)) / (9 : Int32)) * (9 : Int32))))).2)) := va_D_eq hD r_Mo_Ar3
              refine lv_pop hx hb dX9_turn_193 rfl ?_
              refine lv_goto (tgt := 356) hx hb dX9_turn_194 (by decide) ?_
              exact mu_vret hx hb hr hlocks hP hS dX9_turn_356 (by rw [m_X9_turn, if_neg c_1, if_pos c_2, if_pos c_3, if_neg c_4, if_pos c_5, if_pos c_6])
          · skip
            refine lv_aload_n hx hb dX9_turn_149 rfl (lv_at hl 6 rfl) ?_
            refine va_get (D := D) (ci := 7) (v := .ref a3) (C := RX9) (T := TX9) (N := 11) hx hb hts in_X9 hown hG.1 hP 0 g_Mo_0 rfl 4 (by decide) k_0 (fun _ h9 => h9) rfl dX9_turn_150 ?_
            refine lv_bipush (v := (120 : Int32)) hx hb dX9_turn_153 (by decide) ?_
            refine lv_iload_n hx hb dX9_turn_155 rfl (lv_at hl 4 rfl) ?_
            refine lv_iload hx hb dX9_turn_156 (lv_at hl 3 rfl) ?_
            refine lv_iconst (v := (0 : Int32)) hx hb dX9_turn_158 (by decide) ?_
            refine muS (A0 := A) (wc := (wAr cy a3 (mW mo))) (As := [.ref a3, .int (120 : Int32), .int ((x1 / (16 : Int32)) - (((x1 / (16 : Int32)) / ((mW mo) (1 : Int32).toNatClampNeg)) * ((mW mo) (1 : Int32).toNatClampNeg))), .int ((x1 / (256 : Int32)) - (((x1 / (256 : Int32)) / ((mW mo) (1 : Int32).toNatClampNeg)) * ((mW mo) (1 : Int32).toNatClampNeg))), .int (0 : Int32)]) (rest := []) (c_X9_does l D cy a3 (mW mo) (120 : Int32) ((x1 / (16 : Int32)) - (((x1 / (16 : Int32)) / ((mW mo) (1 : Int32).toNatClampNeg)) * ((mW mo) (1 : Int32).toNatClampNeg))) ((x1 / (256 : Int32)) - (((x1 / (256 : Int32)) / ((mW mo) (1 : Int32).toNatClampNeg)) * ((mW mo) (1 : Int32).toNatClampNeg))) (0 : Int32) hW) hCF gX9_turn_X9_does rfl hd_X9_does ⟨rfl, rfl, Nat.le_of_ble_eq_true rfl, Nat.le_of_ble_eq_true rfl⟩ hG hP hD hS hA [3] rfl c_Mo_Ar3 h_Ar rfl hl.1 rfl (Nat.le_of_ble_eq_true rfl) dX9_turn_159 ⟨Nat.le_refl _, Nat.le_refl _⟩ (fun H locs hP hD hS => ?_)
            have hP : va_P D vwCl (wMo cy a0 a1 a2 a3 a4 a5 a6 (mW' mo (m_X9_does (mW mo) (120 : Int32) ((x1 / (16 : Int32)) - (((x1 / (16 : Int32)) / ((mW mo) (1 : Int32).toNatClampNeg)) * ((mW mo) (1 : Int32).toNatClampNeg))) ((x1 / (256 : Int32)) - (((x1 / (256 : Int32)) / ((mW mo) (1 : Int32).toNatClampNeg)) * ((mW mo) (1 : Int32).toNatClampNeg))) (0 : Int32)).2)) H := va_P_eq hP r_Mo_Ar3
            have hD : va_D A (wMo cy a0 a1 a2 a3 a4 a5 a6 (mW' mo (m_X9_does (mW mo) (120 : Int32) ((x1 / (16 : Int32)) - (((x1 / (16 : Int32)) / ((mW mo) (1 : Int32).toNatClampNeg)) * ((mW mo) (1 : Int32).toNatClampNeg))) ((x1 / (256 : Int32)) - (((x1 / (256 : Int32)) / ((mW mo) (1 : Int32).toNatClampNeg)) * ((mW mo) (1 : Int32).toNatClampNeg))) (0 : Int32)).2)) := va_D_eq hD r_Mo_Ar3
            refine lv_pop hx hb dX9_turn_162 rfl ?_
            refine lv_goto (tgt := 356) hx hb dX9_turn_163 (by decide) ?_
            exact mu_vret hx hb hr hlocks hP hS dX9_turn_356 (by rw [m_X9_turn, if_neg c_1, if_pos c_2, if_pos c_3, if_neg c_4, if_neg c_5])
        · skip
          refine lv_aload_n hx hb dX9_turn_126 rfl (lv_at hl 6 rfl) ?_
          refine va_get (D := D) (ci := 7) (v := .ref a3) (C := RX9) (T := TX9) (N := 11) hx hb hts in_X9 hown hG.1 hP 0 g_Mo_0 rfl 4 (by decide) k_0 (fun _ h9 => h9) rfl dX9_turn_127 ?_
          refine lv_bipush (v := (114 : Int32)) hx hb dX9_turn_130 (by decide) ?_
          refine lv_iload_n hx hb dX9_turn_132 rfl (lv_at hl 4 rfl) ?_
          refine lv_iconst (v := (0 : Int32)) hx hb dX9_turn_133 (by decide) ?_
          refine lv_iconst (v := (0 : Int32)) hx hb dX9_turn_134 (by decide) ?_
          refine muS (A0 := A) (wc := (wAr cy a3 (mW mo))) (As := [.ref a3, .int (114 : Int32), .int ((x1 / (16 : Int32)) - (((x1 / (16 : Int32)) / ((mW mo) (1 : Int32).toNatClampNeg)) * ((mW mo) (1 : Int32).toNatClampNeg))), .int (0 : Int32), .int (0 : Int32)]) (rest := []) (c_X9_does l D cy a3 (mW mo) (114 : Int32) ((x1 / (16 : Int32)) - (((x1 / (16 : Int32)) / ((mW mo) (1 : Int32).toNatClampNeg)) * ((mW mo) (1 : Int32).toNatClampNeg))) (0 : Int32) (0 : Int32) hW) hCF gX9_turn_X9_does rfl hd_X9_does ⟨rfl, rfl, Nat.le_of_ble_eq_true rfl, Nat.le_of_ble_eq_true rfl⟩ hG hP hD hS hA [3] rfl c_Mo_Ar3 h_Ar rfl hl.1 rfl (Nat.le_of_ble_eq_true rfl) dX9_turn_135 ⟨Nat.le_refl _, Nat.le_refl _⟩ (fun H locs hP hD hS => ?_)
          have hP : va_P D vwCl (wMo cy a0 a1 a2 a3 a4 a5 a6 (mW' mo (m_X9_does (mW mo) (114 : Int32) ((x1 / (16 : Int32)) - (((x1 / (16 : Int32)) / ((mW mo) (1 : Int32).toNatClampNeg)) * ((mW mo) (1 : Int32).toNatClampNeg))) (0 : Int32) (0 : Int32)).2)) H := va_P_eq hP r_Mo_Ar3
          have hD : va_D A (wMo cy a0 a1 a2 a3 a4 a5 a6 (mW' mo (m_X9_does (mW mo) (114 : Int32) ((x1 / (16 : Int32)) - (((x1 / (16 : Int32)) / ((mW mo) (1 : Int32).toNatClampNeg)) * ((mW mo) (1 : Int32).toNatClampNeg))) (0 : Int32) (0 : Int32)).2)) := va_D_eq hD r_Mo_Ar3
          refine lv_pop hx hb dX9_turn_138 rfl ?_
          refine lv_goto (tgt := 356) hx hb dX9_turn_139 (by decide) ?_
          exact mu_vret hx hb hr hlocks hP hS dX9_turn_356 (by rw [m_X9_turn, if_neg c_1, if_pos c_2, if_pos c_3, if_pos c_4])
      · skip
        refine lv_aload_n hx hb dX9_turn_97 rfl (lv_at hl 6 rfl) ?_
        refine va_get (D := D) (ci := 7) (v := .ref a3) (C := RX9) (T := TX9) (N := 11) hx hb hts in_X9 hown hG.1 hP 0 g_Mo_0 rfl 4 (by decide) k_0 (fun _ h9 => h9) rfl dX9_turn_98 ?_
        refine lv_bipush (v := (108 : Int32)) hx hb dX9_turn_101 (by decide) ?_
        refine lv_iload_n hx hb dX9_turn_103 rfl (lv_at hl 4 rfl) ?_
        refine lv_iload hx hb dX9_turn_104 (lv_at hl 2 rfl) ?_
        refine lv_iconst (v := (1 : Int32)) hx hb dX9_turn_106 (by decide) ?_
        refine lv_iload hx hb dX9_turn_107 (lv_at hl 1 rfl) ?_
        refine lv_bipush (v := (9 : Int32)) hx hb dX9_turn_109 (by decide) ?_
        refine lv_irem hx hb dX9_turn_111 (by decide) ?_
        refine lv_iadd hx hb dX9_turn_112 ?_
        refine muS (A0 := A) (wc := (wAr cy a3 (mW mo))) (As := [.ref a3, .int (108 : Int32), .int ((x1 / (16 : Int32)) - (((x1 / (16 : Int32)) / ((mW mo) (1 : Int32).toNatClampNeg)) * ((mW mo) (1 : Int32).toNatClampNeg))), .int ((x1 / (4096 : Int32)) - (((x1 / (4096 : Int32)) / (5 : Int32)) * (5 : Int32))), .int ((1 : Int32) + ((x1 / (32768 : Int32)) - (((x1 / (32768 : Int32)) / (9 : Int32)) * (9 : Int32))))]) (rest := []) (c_X9_does l D cy a3 (mW mo) (108 : Int32) ((x1 / (16 : Int32)) - (((x1 / (16 : Int32)) / ((mW mo) (1 : Int32).toNatClampNeg)) * ((mW mo) (1 : Int32).toNatClampNeg))) ((x1 / (4096 : Int32)) - (((x1 / (4096 : Int32)) / (5 : Int32)) * (5 : Int32))) ((1 : Int32) + ((x1 / (32768 : Int32)) - (((x1 / (32768 : Int32)) / (9 : Int32)) * (9 : Int32)))) hW) hCF gX9_turn_X9_does rfl hd_X9_does ⟨rfl, rfl, Nat.le_of_ble_eq_true rfl, Nat.le_of_ble_eq_true rfl⟩ hG hP hD hS hA [3] rfl c_Mo_Ar3 h_Ar rfl hl.1 rfl (Nat.le_of_ble_eq_true rfl) dX9_turn_113 ⟨Nat.le_refl _, Nat.le_refl _⟩ (fun H locs hP hD hS => ?_)
        have hP : va_P D vwCl (wMo cy a0 a1 a2 a3 a4 a5 a6 (mW' mo (m_X9_does (mW mo) (108 : Int32) ((x1 / (16 : Int32)) - (((x1 / (16 : Int32)) / ((mW mo) (1 : Int32).toNatClampNeg)) * ((mW mo) (1 : Int32).toNatClampNeg))) ((x1 / (4096 : Int32)) - (((x1 / (4096 : Int32)) / (5 : Int32)) * (5 : Int32))) ((1 : Int32) + ((x1 / (32768 : Int32)) - (((x1 / (32768 : Int32)) / (9 : Int32)) * (9 : Int32))))).2)) H := va_P_eq hP r_Mo_Ar3
        have hD : va_D A (wMo cy a0 a1 a2 a3 a4 a5 a6 (mW' mo (m_X9_does (mW mo) (108 : Int32) ((x1 / (16 : Int32)) - (((x1 / (16 : Int32)) / ((mW mo) (1 : Int32).toNatClampNeg)) * ((mW mo) (1 : Int32).toNatClampNeg))) ((x1 / (4096 : Int32)) - (((x1 / (4096 : Int32)) / (5 : Int32)) * (5 : Int32))) ((1 : Int32) + ((x1 / (32768 : Int32)) - (((x1 / (32768 : Int32)) / (9 : Int32)) * (9 : Int32))))).2)) := va_D_eq hD r_Mo_Ar3
        refine lv_pop hx hb dX9_turn_116 rfl ?_
        refine lv_goto (tgt := 356) hx hb dX9_turn_117 (by decide) ?_
        exact mu_vret hx hb hr hlocks hP hS dX9_turn_356 (by rw [m_X9_turn, if_neg c_1, if_pos c_2, if_neg c_3])
    · skip
      refine lv_aload_n hx hb dX9_turn_63 rfl (lv_at hl 6 rfl) ?_
      refine va_get (D := D) (ci := 7) (v := .ref a3) (C := RX9) (T := TX9) (N := 11) hx hb hts in_X9 hown hG.1 hP 0 g_Mo_0 rfl 4 (by decide) k_0 (fun _ h9 => h9) rfl dX9_turn_64 ?_
      refine lv_bipush (v := (110 : Int32)) hx hb dX9_turn_67 (by decide) ?_
      refine lv_iload_n hx hb dX9_turn_69 rfl (lv_at hl 7 rfl) ?_
      refine lv_bipush (v := (16 : Int32)) hx hb dX9_turn_70 (by decide) ?_
      refine lv_idiv hx hb dX9_turn_72 (by decide) ?_
      refine lv_iconst (v := (3 : Int32)) hx hb dX9_turn_73 (by decide) ?_
      refine lv_irem hx hb dX9_turn_74 (by decide) ?_
      refine lv_iload hx hb dX9_turn_75 (lv_at hl 2 rfl) ?_
      refine lv_iload_n hx hb dX9_turn_77 rfl (lv_at hl 7 rfl) ?_
      refine lv_bipush (v := (64 : Int32)) hx hb dX9_turn_78 (by decide) ?_
      refine lv_idiv hx hb dX9_turn_80 (by decide) ?_
      refine lv_bipush (v := (8 : Int32)) hx hb dX9_turn_81 (by decide) ?_
      refine lv_irem hx hb dX9_turn_83 (by decide) ?_
      refine muS (A0 := A) (wc := (wAr cy a3 (mW mo))) (As := [.ref a3, .int (110 : Int32), .int ((x1 / (16 : Int32)) - (((x1 / (16 : Int32)) / (3 : Int32)) * (3 : Int32))), .int ((x1 / (4096 : Int32)) - (((x1 / (4096 : Int32)) / (5 : Int32)) * (5 : Int32))), .int ((x1 / (64 : Int32)) - (((x1 / (64 : Int32)) / (8 : Int32)) * (8 : Int32)))]) (rest := []) (c_X9_does l D cy a3 (mW mo) (110 : Int32) ((x1 / (16 : Int32)) - (((x1 / (16 : Int32)) / (3 : Int32)) * (3 : Int32))) ((x1 / (4096 : Int32)) - (((x1 / (4096 : Int32)) / (5 : Int32)) * (5 : Int32))) ((x1 / (64 : Int32)) - (((x1 / (64 : Int32)) / (8 : Int32)) * (8 : Int32))) hW) hCF gX9_turn_X9_does rfl hd_X9_does ⟨rfl, rfl, Nat.le_of_ble_eq_true rfl, Nat.le_of_ble_eq_true rfl⟩ hG hP hD hS hA [3] rfl c_Mo_Ar3 h_Ar rfl hl.1 rfl (Nat.le_of_ble_eq_true rfl) dX9_turn_84 ⟨Nat.le_refl _, Nat.le_refl _⟩ (fun H locs hP hD hS => ?_)
      have hP : va_P D vwCl (wMo cy a0 a1 a2 a3 a4 a5 a6 (mW' mo (m_X9_does (mW mo) (110 : Int32) ((x1 / (16 : Int32)) - (((x1 / (16 : Int32)) / (3 : Int32)) * (3 : Int32))) ((x1 / (4096 : Int32)) - (((x1 / (4096 : Int32)) / (5 : Int32)) * (5 : Int32))) ((x1 / (64 : Int32)) - (((x1 / (64 : Int32)) / (8 : Int32)) * (8 : Int32)))).2)) H := va_P_eq hP r_Mo_Ar3
      have hD : va_D A (wMo cy a0 a1 a2 a3 a4 a5 a6 (mW' mo (m_X9_does (mW mo) (110 : Int32) ((x1 / (16 : Int32)) - (((x1 / (16 : Int32)) / (3 : Int32)) * (3 : Int32))) ((x1 / (4096 : Int32)) - (((x1 / (4096 : Int32)) / (5 : Int32)) * (5 : Int32))) ((x1 / (64 : Int32)) - (((x1 / (64 : Int32)) / (8 : Int32)) * (8 : Int32)))).2)) := va_D_eq hD r_Mo_Ar3
      refine lv_pop hx hb dX9_turn_87 rfl ?_
      refine lv_goto (tgt := 356) hx hb dX9_turn_88 (by decide) ?_
      exact mu_vret hx hb hr hlocks hP hS dX9_turn_356 (by rw [m_X9_turn, if_neg c_1, if_neg c_2])
  · skip
    refine lv_iconst (v := (1 : Int32)) hx hb dX9_turn_9 (by decide) ?_
    refine lv_goto (tgt := 19) hx hb dX9_turn_10 (by decide) ?_
    refine lv_istore_n (lv' := [(2, .int (1 : Int32)), (0, .ref a0), (1, .int x1)]) hx hb dX9_turn_19 rfl hl (by decide) rfl (fun ls hl => ?_)
    refine lv_iload_n hx hb dX9_turn_20 rfl (lv_at hl 2 rfl) ?_
    refine lv_bipush (v := (16 : Int32)) hx hb dX9_turn_21 (by decide) ?_
    refine lv_idiv hx hb dX9_turn_23 (by decide) ?_
    refine lv_iload_n hx hb dX9_turn_24 rfl (lv_at hl 0 rfl) ?_
    refine lv_irem hx hb dX9_turn_25 (by decide) ?_
    refine lv_istore_n (lv' := [(3, .int ((x1 / (16 : Int32)) - (((x1 / (16 : Int32)) / (1 : Int32)) * (1 : Int32)))), (2, .int (1 : Int32)), (0, .ref a0), (1, .int x1)]) hx hb dX9_turn_26 rfl hl (by decide) rfl (fun ls hl => ?_)
    refine lv_iload_n hx hb dX9_turn_27 rfl (lv_at hl 3 rfl) ?_
    refine lv_sipush (v := (256 : Int32)) hx hb dX9_turn_28 (by decide) ?_
    refine lv_idiv hx hb dX9_turn_31 (by decide) ?_
    refine lv_iload_n hx hb dX9_turn_32 rfl (lv_at hl 1 rfl) ?_
    refine lv_irem hx hb dX9_turn_33 (by decide) ?_
    refine lv_istore (lv' := [(4, .int ((x1 / (256 : Int32)) - (((x1 / (256 : Int32)) / (1 : Int32)) * (1 : Int32)))), (3, .int ((x1 / (16 : Int32)) - (((x1 / (16 : Int32)) / (1 : Int32)) * (1 : Int32)))), (2, .int (1 : Int32)), (0, .ref a0), (1, .int x1)]) hx hb dX9_turn_34 hl (by decide) rfl (fun ls hl => ?_)
    refine lv_iload_n hx hb dX9_turn_36 rfl (lv_at hl 4 rfl) ?_
    refine lv_sipush (v := (4096 : Int32)) hx hb dX9_turn_37 (by decide) ?_
    refine lv_idiv hx hb dX9_turn_40 (by decide) ?_
    refine lv_iconst (v := (5 : Int32)) hx hb dX9_turn_41 (by decide) ?_
    refine lv_irem hx hb dX9_turn_42 (by decide) ?_
    refine lv_istore (lv' := [(5, .int ((x1 / (4096 : Int32)) - (((x1 / (4096 : Int32)) / (5 : Int32)) * (5 : Int32)))), (4, .int ((x1 / (256 : Int32)) - (((x1 / (256 : Int32)) / (1 : Int32)) * (1 : Int32)))), (3, .int ((x1 / (16 : Int32)) - (((x1 / (16 : Int32)) / (1 : Int32)) * (1 : Int32)))), (2, .int (1 : Int32)), (0, .ref a0), (1, .int x1)]) hx hb dX9_turn_43 hl (by decide) rfl (fun ls hl => ?_)
    refine lv_iload_n hx hb dX9_turn_45 rfl (lv_at hl 5 rfl) ?_
    refine lv_ldc (v := (32768 : Int32)) hx hb hown k_1 dX9_turn_46 ?_
    refine lv_idiv hx hb dX9_turn_48 (by decide) ?_
    refine lv_istore (lv' := [(6, .int (x1 / (32768 : Int32))), (5, .int ((x1 / (4096 : Int32)) - (((x1 / (4096 : Int32)) / (5 : Int32)) * (5 : Int32)))), (4, .int ((x1 / (256 : Int32)) - (((x1 / (256 : Int32)) / (1 : Int32)) * (1 : Int32)))), (3, .int ((x1 / (16 : Int32)) - (((x1 / (16 : Int32)) / (1 : Int32)) * (1 : Int32)))), (2, .int (1 : Int32)), (0, .ref a0), (1, .int x1)]) hx hb dX9_turn_49 hl (by decide) rfl (fun ls hl => ?_)
    refine lv_iload_n hx hb dX9_turn_51 rfl (lv_at hl 6 rfl) ?_
    refine lv_bipush (v := (16 : Int32)) hx hb dX9_turn_52 (by decide) ?_
    refine lv_irem hx hb dX9_turn_54 (by decide) ?_
    refine lv_istore (lv' := [(7, .int (x1 - ((x1 / (16 : Int32)) * (16 : Int32)))), (6, .int (x1 / (32768 : Int32))), (5, .int ((x1 / (4096 : Int32)) - (((x1 / (4096 : Int32)) / (5 : Int32)) * (5 : Int32)))), (4, .int ((x1 / (256 : Int32)) - (((x1 / (256 : Int32)) / (1 : Int32)) * (1 : Int32)))), (3, .int ((x1 / (16 : Int32)) - (((x1 / (16 : Int32)) / (1 : Int32)) * (1 : Int32)))), (2, .int (1 : Int32)), (0, .ref a0), (1, .int x1)]) hx hb dX9_turn_55 hl (by decide) rfl (fun ls hl => ?_)
    refine lv_iload hx hb dX9_turn_57 (lv_at hl 0 rfl) ?_
    refine lv_iconst (v := (3 : Int32)) hx hb dX9_turn_59 (by decide) ?_
    refine lv_icmp_ge (tgt := 91) hx hb dX9_turn_60 (by decide) (fun c_12 => ?_) (fun c_12 => ?_)
    · skip
      refine lv_iload hx hb dX9_turn_91 (lv_at hl 0 rfl) ?_
      refine lv_iconst (v := (5 : Int32)) hx hb dX9_turn_93 (by decide) ?_
      refine lv_icmp_ge (tgt := 120) hx hb dX9_turn_94 (by decide) (fun c_13 => ?_) (fun c_13 => ?_)
      · skip
        refine lv_iload hx hb dX9_turn_120 (lv_at hl 0 rfl) ?_
        refine lv_iconst (v := (5 : Int32)) hx hb dX9_turn_122 (by decide) ?_
        refine lv_icmp_ne (tgt := 142) hx hb dX9_turn_123 (by decide) (fun c_14 => ?_) (fun c_14 => ?_)
        · skip
          refine lv_iload hx hb dX9_turn_142 (lv_at hl 0 rfl) ?_
          refine lv_bipush (v := (8 : Int32)) hx hb dX9_turn_144 (by decide) ?_
          refine lv_icmp_ge (tgt := 166) hx hb dX9_turn_146 (by decide) (fun c_15 => ?_) (fun c_15 => ?_)
          · skip
            refine lv_iload hx hb dX9_turn_166 (lv_at hl 0 rfl) ?_
            refine lv_bipush (v := (8 : Int32)) hx hb dX9_turn_168 (by decide) ?_
            refine lv_icmp_ne (tgt := 197) hx hb dX9_turn_170 (by decide) (fun c_16 => ?_) (fun c_16 => ?_)
            · skip
              refine lv_iload hx hb dX9_turn_197 (lv_at hl 0 rfl) ?_
              refine lv_bipush (v := (9 : Int32)) hx hb dX9_turn_199 (by decide) ?_
              refine lv_icmp_ne (tgt := 220) hx hb dX9_turn_201 (by decide) (fun c_17 => ?_) (fun c_17 => ?_)
              · skip
                refine lv_iload hx hb dX9_turn_220 (lv_at hl 0 rfl) ?_
                refine lv_bipush (v := (13 : Int32)) hx hb dX9_turn_222 (by decide) ?_
                refine lv_icmp_ge (tgt := 247) hx hb dX9_turn_224 (by decide) (fun c_18 => ?_) (fun c_18 => ?_)
                · skip
                  refine lv_iload hx hb dX9_turn_247 (lv_at hl 0 rfl) ?_
                  refine lv_bipush (v := (13 : Int32)) hx hb dX9_turn_249 (by decide) ?_
                  refine lv_icmp_ne (tgt := 273) hx hb dX9_turn_251 (by decide) (fun c_19 => ?_) (fun c_19 => ?_)
                  · skip
                    refine lv_iload hx hb dX9_turn_273 (lv_at hl 0 rfl) ?_
                    refine lv_bipush (v := (15 : Int32)) hx hb dX9_turn_275 (by decide) ?_
                    refine lv_icmp_ne (tgt := 302) hx hb dX9_turn_277 (by decide) (fun c_20 => ?_) (fun c_20 => ?_)
                    · skip
                      refine lv_aload_n hx hb dX9_turn_302 rfl (lv_at hl 6 rfl) ?_
                      refine va_get (D := D) (ci := 7) (v := .ref a3) (C := RX9) (T := TX9) (N := 11) hx hb hts in_X9 hown hG.1 hP 0 g_Mo_0 rfl 4 (by decide) k_0 (fun _ h9 => h9) rfl dX9_turn_303 ?_
                      refine lv_iload hx hb dX9_turn_306 (lv_at hl 2 rfl) ?_
                      refine lv_iload hx hb dX9_turn_308 (lv_at hl 1 rfl) ?_
                      refine lv_iconst (v := (5 : Int32)) hx hb dX9_turn_310 (by decide) ?_
                      refine lv_irem hx hb dX9_turn_311 (by decide) ?_
                      refine lv_iload_n hx hb dX9_turn_312 rfl (lv_at hl 7 rfl) ?_
                      refine lv_bipush (v := (16 : Int32)) hx hb dX9_turn_313 (by decide) ?_
                      refine lv_idiv hx hb dX9_turn_315 (by decide) ?_
                      refine lv_iconst (v := (3 : Int32)) hx hb dX9_turn_316 (by decide) ?_
                      refine lv_irem hx hb dX9_turn_317 (by decide) ?_
                      refine lv_iload_n hx hb dX9_turn_318 rfl (lv_at hl 7 rfl) ?_
                      refine lv_bipush (v := (64 : Int32)) hx hb dX9_turn_319 (by decide) ?_
                      refine lv_idiv hx hb dX9_turn_321 (by decide) ?_
                      refine lv_iconst (v := (3 : Int32)) hx hb dX9_turn_322 (by decide) ?_
                      refine lv_irem hx hb dX9_turn_323 (by decide) ?_
                      refine roS (wc := (wAr cy a3 (mW mo))) (As := [.ref a3, .int ((x1 / (4096 : Int32)) - (((x1 / (4096 : Int32)) / (5 : Int32)) * (5 : Int32))), .int ((x1 / (32768 : Int32)) - (((x1 / (32768 : Int32)) / (5 : Int32)) * (5 : Int32))), .int ((x1 / (16 : Int32)) - (((x1 / (16 : Int32)) / (3 : Int32)) * (3 : Int32))), .int ((x1 / (64 : Int32)) - (((x1 / (64 : Int32)) / (3 : Int32)) * (3 : Int32)))]) (rest := []) (c_X9_whyNotSettle l D cy a3 (mW mo) ((x1 / (4096 : Int32)) - (((x1 / (4096 : Int32)) / (5 : Int32)) * (5 : Int32))) ((x1 / (32768 : Int32)) - (((x1 / (32768 : Int32)) / (5 : Int32)) * (5 : Int32))) ((x1 / (16 : Int32)) - (((x1 / (16 : Int32)) / (3 : Int32)) * (3 : Int32))) ((x1 / (64 : Int32)) - (((x1 / (64 : Int32)) / (3 : Int32)) * (3 : Int32)))) hCF gX9_turn_X9_whyNotSettle rfl hd_X9_whyNotSettle ⟨rfl, rfl, Nat.le_of_ble_eq_true rfl, Nat.le_of_ble_eq_true rfl⟩ hG (hP.sub (ws' := (wAr cy a3 (mW mo))) [3] u_Mo_Ar3) rfl hl.1 rfl (Nat.le_of_ble_eq_true rfl) dX9_turn_324 ⟨Nat.le_refl _, Nat.le_refl _⟩ ?_
                      refine lv_if_ne (tgt := 356) hx hb dX9_turn_327 (by decide) (fun c_21 => ?_) (fun c_21 => ?_)
                      · skip
                        exact mu_vret hx hb hr hlocks hP hS dX9_turn_356 (by rw [m_X9_turn, if_pos c_1, if_pos c_12, if_pos c_13, if_neg c_14, if_pos c_15, if_neg c_16, if_neg c_17, if_pos c_18, if_neg c_19, if_neg c_20, if_neg c_21])
                      · skip
                        refine lv_aload_n hx hb dX9_turn_330 rfl (lv_at hl 6 rfl) ?_
                        refine va_get (D := D) (ci := 7) (v := .ref a3) (C := RX9) (T := TX9) (N := 11) hx hb hts in_X9 hown hG.1 hP 0 g_Mo_0 rfl 4 (by decide) k_0 (fun _ h9 => h9) rfl dX9_turn_331 ?_
                        refine lv_iload hx hb dX9_turn_334 (lv_at hl 2 rfl) ?_
                        refine lv_iload hx hb dX9_turn_336 (lv_at hl 1 rfl) ?_
                        refine lv_iconst (v := (5 : Int32)) hx hb dX9_turn_338 (by decide) ?_
                        refine lv_irem hx hb dX9_turn_339 (by decide) ?_
                        refine lv_iload_n hx hb dX9_turn_340 rfl (lv_at hl 7 rfl) ?_
                        refine lv_bipush (v := (16 : Int32)) hx hb dX9_turn_341 (by decide) ?_
                        refine lv_idiv hx hb dX9_turn_343 (by decide) ?_
                        refine lv_iconst (v := (3 : Int32)) hx hb dX9_turn_344 (by decide) ?_
                        refine lv_irem hx hb dX9_turn_345 (by decide) ?_
                        refine lv_iload_n hx hb dX9_turn_346 rfl (lv_at hl 7 rfl) ?_
                        refine lv_bipush (v := (64 : Int32)) hx hb dX9_turn_347 (by decide) ?_
                        refine lv_idiv hx hb dX9_turn_349 (by decide) ?_
                        refine lv_iconst (v := (3 : Int32)) hx hb dX9_turn_350 (by decide) ?_
                        refine lv_irem hx hb dX9_turn_351 (by decide) ?_
                        refine muS (A0 := A) (wc := (wAr cy a3 (mW mo))) (As := [.ref a3, .int ((x1 / (4096 : Int32)) - (((x1 / (4096 : Int32)) / (5 : Int32)) * (5 : Int32))), .int ((x1 / (32768 : Int32)) - (((x1 / (32768 : Int32)) / (5 : Int32)) * (5 : Int32))), .int ((x1 / (16 : Int32)) - (((x1 / (16 : Int32)) / (3 : Int32)) * (3 : Int32))), .int ((x1 / (64 : Int32)) - (((x1 / (64 : Int32)) / (3 : Int32)) * (3 : Int32)))]) (rest := []) (c_X9_settleOn l D cy a3 (mW mo) ((x1 / (4096 : Int32)) - (((x1 / (4096 : Int32)) / (5 : Int32)) * (5 : Int32))) ((x1 / (32768 : Int32)) - (((x1 / (32768 : Int32)) / (5 : Int32)) * (5 : Int32))) ((x1 / (16 : Int32)) - (((x1 / (16 : Int32)) / (3 : Int32)) * (3 : Int32))) ((x1 / (64 : Int32)) - (((x1 / (64 : Int32)) / (3 : Int32)) * (3 : Int32))) (wn_Settle_0 hW c_21) (wn_Settle_1 hW c_21) (wn_Settle_2 hW c_21) (wn_Settle_3 hW c_21)) hCF gX9_turn_X9_settleOn rfl hd_X9_settleOn ⟨rfl, rfl, Nat.le_of_ble_eq_true rfl, Nat.le_of_ble_eq_true rfl⟩ hG hP hD hS hA [3] rfl c_Mo_Ar3 h_Ar rfl hl.1 rfl (Nat.le_of_ble_eq_true rfl) dX9_turn_352 ⟨Nat.le_refl _, Nat.le_refl _⟩ (fun H locs hP hD hS => ?_)
                        have hP : va_P D vwCl (wMo cy a0 a1 a2 a3 a4 a5 a6 (mW' mo (m_X9_settleOn (mW mo) ((x1 / (4096 : Int32)) - (((x1 / (4096 : Int32)) / (5 : Int32)) * (5 : Int32))) ((x1 / (32768 : Int32)) - (((x1 / (32768 : Int32)) / (5 : Int32)) * (5 : Int32))) ((x1 / (16 : Int32)) - (((x1 / (16 : Int32)) / (3 : Int32)) * (3 : Int32))) ((x1 / (64 : Int32)) - (((x1 / (64 : Int32)) / (3 : Int32)) * (3 : Int32)))).2)) H := va_P_eq hP r_Mo_Ar3
                        have hD : va_D A (wMo cy a0 a1 a2 a3 a4 a5 a6 (mW' mo (m_X9_settleOn (mW mo) ((x1 / (4096 : Int32)) - (((x1 / (4096 : Int32)) / (5 : Int32)) * (5 : Int32))) ((x1 / (32768 : Int32)) - (((x1 / (32768 : Int32)) / (5 : Int32)) * (5 : Int32))) ((x1 / (16 : Int32)) - (((x1 / (16 : Int32)) / (3 : Int32)) * (3 : Int32))) ((x1 / (64 : Int32)) - (((x1 / (64 : Int32)) / (3 : Int32)) * (3 : Int32)))).2)) := va_D_eq hD r_Mo_Ar3
                        refine lv_pop hx hb dX9_turn_355 rfl ?_
                        exact mu_vret hx hb hr hlocks hP hS dX9_turn_356 (by rw [m_X9_turn, if_pos c_1, if_pos c_12, if_pos c_13, if_neg c_14, if_pos c_15, if_neg c_16, if_neg c_17, if_pos c_18, if_neg c_19, if_neg c_20, if_pos c_21])
                    · skip
                      refine lv_aload_n hx hb dX9_turn_280 rfl (lv_at hl 6 rfl) ?_
                      refine va_get (D := D) (ci := 7) (v := .ref a3) (C := RX9) (T := TX9) (N := 11) hx hb hts in_X9 hown hG.1 hP 0 g_Mo_0 rfl 4 (by decide) k_0 (fun _ h9 => h9) rfl dX9_turn_281 ?_
                      refine lv_bipush (v := (100 : Int32)) hx hb dX9_turn_284 (by decide) ?_
                      refine lv_iconst (v := (1 : Int32)) hx hb dX9_turn_286 (by decide) ?_
                      refine lv_iload hx hb dX9_turn_287 (lv_at hl 1 rfl) ?_
                      refine lv_bipush (v := (9 : Int32)) hx hb dX9_turn_289 (by decide) ?_
                      refine lv_irem hx hb dX9_turn_291 (by decide) ?_
                      refine lv_iadd hx hb dX9_turn_292 ?_
                      refine lv_iconst (v := (0 : Int32)) hx hb dX9_turn_293 (by decide) ?_
                      refine lv_iconst (v := (0 : Int32)) hx hb dX9_turn_294 (by decide) ?_
                      refine muS (A0 := A) (wc := (wAr cy a3 (mW mo))) (As := [.ref a3, .int (100 : Int32), .int ((1 : Int32) + ((x1 / (32768 : Int32)) - (((x1 / (32768 : Int32)) / (9 : Int32)) * (9 : Int32)))), .int (0 : Int32), .int (0 : Int32)]) (rest := []) (c_X9_does l D cy a3 (mW mo) (100 : Int32) ((1 : Int32) + ((x1 / (32768 : Int32)) - (((x1 / (32768 : Int32)) / (9 : Int32)) * (9 : Int32)))) (0 : Int32) (0 : Int32) hW) hCF gX9_turn_X9_does rfl hd_X9_does ⟨rfl, rfl, Nat.le_of_ble_eq_true rfl, Nat.le_of_ble_eq_true rfl⟩ hG hP hD hS hA [3] rfl c_Mo_Ar3 h_Ar rfl hl.1 rfl (Nat.le_of_ble_eq_true rfl) dX9_turn_295 ⟨Nat.le_refl _, Nat.le_refl _⟩ (fun H locs hP hD hS => ?_)
                      have hP : va_P D vwCl (wMo cy a0 a1 a2 a3 a4 a5 a6 (mW' mo (m_X9_does (mW mo) (100 : Int32) ((1 : Int32) + ((x1 / (32768 : Int32)) - (((x1 / (32768 : Int32)) / (9 : Int32)) * (9 : Int32)))) (0 : Int32) (0 : Int32)).2)) H := va_P_eq hP r_Mo_Ar3
                      have hD : va_D A (wMo cy a0 a1 a2 a3 a4 a5 a6 (mW' mo (m_X9_does (mW mo) (100 : Int32) ((1 : Int32) + ((x1 / (32768 : Int32)) - (((x1 / (32768 : Int32)) / (9 : Int32)) * (9 : Int32)))) (0 : Int32) (0 : Int32)).2)) := va_D_eq hD r_Mo_Ar3
                      refine lv_pop hx hb dX9_turn_298 rfl ?_
                      refine lv_goto (tgt := 356) hx hb dX9_turn_299 (by decide) ?_
                      exact mu_vret hx hb hr hlocks hP hS dX9_turn_356 (by rw [m_X9_turn, if_pos c_1, if_pos c_12, if_pos c_13, if_neg c_14, if_pos c_15, if_neg c_16, if_neg c_17, if_pos c_18, if_neg c_19, if_pos c_20])
                  · skip
                    refine lv_aload_n hx hb dX9_turn_254 rfl (lv_at hl 6 rfl) ?_
                    refine va_get (D := D) (ci := 7) (v := .ref a3) (C := RX9) (T := TX9) (N := 11) hx hb hts in_X9 hown hG.1 hP 0 g_Mo_0 rfl 4 (by decide) k_0 (fun _ h9 => h9) rfl dX9_turn_255 ?_
                    refine lv_bipush (v := (98 : Int32)) hx hb dX9_turn_258 (by decide) ?_
                    refine lv_iload_n hx hb dX9_turn_260 rfl (lv_at hl 4 rfl) ?_
                    refine lv_iload hx hb dX9_turn_261 (lv_at hl 1 rfl) ?_
                    refine lv_iconst (v := (3 : Int32)) hx hb dX9_turn_263 (by decide) ?_
                    refine lv_irem hx hb dX9_turn_264 (by decide) ?_
                    refine lv_iconst (v := (0 : Int32)) hx hb dX9_turn_265 (by decide) ?_
                    refine muS (A0 := A) (wc := (wAr cy a3 (mW mo))) (As := [.ref a3, .int (98 : Int32), .int ((x1 / (16 : Int32)) - (((x1 / (16 : Int32)) / (1 : Int32)) * (1 : Int32))), .int ((x1 / (32768 : Int32)) - (((x1 / (32768 : Int32)) / (3 : Int32)) * (3 : Int32))), .int (0 : Int32)]) (rest := []) (c_X9_does l D cy a3 (mW mo) (98 : Int32) ((x1 / (16 : Int32)) - (((x1 / (16 : Int32)) / (1 : Int32)) * (1 : Int32))) ((x1 / (32768 : Int32)) - (((x1 / (32768 : Int32)) / (3 : Int32)) * (3 : Int32))) (0 : Int32) hW) hCF gX9_turn_X9_does rfl hd_X9_does ⟨rfl, rfl, Nat.le_of_ble_eq_true rfl, Nat.le_of_ble_eq_true rfl⟩ hG hP hD hS hA [3] rfl c_Mo_Ar3 h_Ar rfl hl.1 rfl (Nat.le_of_ble_eq_true rfl) dX9_turn_266 ⟨Nat.le_refl _, Nat.le_refl _⟩ (fun H locs hP hD hS => ?_)
                    have hP : va_P D vwCl (wMo cy a0 a1 a2 a3 a4 a5 a6 (mW' mo (m_X9_does (mW mo) (98 : Int32) ((x1 / (16 : Int32)) - (((x1 / (16 : Int32)) / (1 : Int32)) * (1 : Int32))) ((x1 / (32768 : Int32)) - (((x1 / (32768 : Int32)) / (3 : Int32)) * (3 : Int32))) (0 : Int32)).2)) H := va_P_eq hP r_Mo_Ar3
                    have hD : va_D A (wMo cy a0 a1 a2 a3 a4 a5 a6 (mW' mo (m_X9_does (mW mo) (98 : Int32) ((x1 / (16 : Int32)) - (((x1 / (16 : Int32)) / (1 : Int32)) * (1 : Int32))) ((x1 / (32768 : Int32)) - (((x1 / (32768 : Int32)) / (3 : Int32)) * (3 : Int32))) (0 : Int32)).2)) := va_D_eq hD r_Mo_Ar3
                    refine lv_pop hx hb dX9_turn_269 rfl ?_
                    refine lv_goto (tgt := 356) hx hb dX9_turn_270 (by decide) ?_
                    exact mu_vret hx hb hr hlocks hP hS dX9_turn_356 (by rw [m_X9_turn, if_pos c_1, if_pos c_12, if_pos c_13, if_neg c_14, if_pos c_15, if_neg c_16, if_neg c_17, if_pos c_18, if_pos c_19])
                · skip
                  refine lv_aload_n hx hb dX9_turn_227 rfl (lv_at hl 6 rfl) ?_
                  refine va_get (D := D) (ci := 7) (v := .ref a3) (C := RX9) (T := TX9) (N := 11) hx hb hts in_X9 hown hG.1 hP 0 g_Mo_0 rfl 4 (by decide) k_0 (fun _ h9 => h9) rfl dX9_turn_228 ?_
                  refine lv_bipush (v := (116 : Int32)) hx hb dX9_turn_231 (by decide) ?_
                  refine lv_iload_n hx hb dX9_turn_233 rfl (lv_at hl 4 rfl) ?_
                  refine lv_iload hx hb dX9_turn_234 (lv_at hl 3 rfl) ?_
                  refine lv_iload hx hb dX9_turn_236 (lv_at hl 1 rfl) ?_
                  refine lv_iconst (v := (3 : Int32)) hx hb dX9_turn_238 (by decide) ?_
                  refine lv_irem hx hb dX9_turn_239 (by decide) ?_
                  refine muS (A0 := A) (wc := (wAr cy a3 (mW mo))) (As := [.ref a3, .int (116 : Int32), .int ((x1 / (16 : Int32)) - (((x1 / (16 : Int32)) / (1 : Int32)) * (1 : Int32))), .int ((x1 / (256 : Int32)) - (((x1 / (256 : Int32)) / (1 : Int32)) * (1 : Int32))), .int ((x1 / (32768 : Int32)) - (((x1 / (32768 : Int32)) / (3 : Int32)) * (3 : Int32)))]) (rest := []) (c_X9_does l D cy a3 (mW mo) (116 : Int32) ((x1 / (16 : Int32)) - (((x1 / (16 : Int32)) / (1 : Int32)) * (1 : Int32))) ((x1 / (256 : Int32)) - (((x1 / (256 : Int32)) / (1 : Int32)) * (1 : Int32))) ((x1 / (32768 : Int32)) - (((x1 / (32768 : Int32)) / (3 : Int32)) * (3 : Int32))) hW) hCF gX9_turn_X9_does rfl hd_X9_does ⟨rfl, rfl, Nat.le_of_ble_eq_true rfl, Nat.le_of_ble_eq_true rfl⟩ hG hP hD hS hA [3] rfl c_Mo_Ar3 h_Ar rfl hl.1 rfl (Nat.le_of_ble_eq_true rfl) dX9_turn_240 ⟨Nat.le_refl _, Nat.le_refl _⟩ (fun H locs hP hD hS => ?_)
                  have hP : va_P D vwCl (wMo cy a0 a1 a2 a3 a4 a5 a6 (mW' mo (m_X9_does (mW mo) (116 : Int32) ((x1 / (16 : Int32)) - (((x1 / (16 : Int32)) / (1 : Int32)) * (1 : Int32))) ((x1 / (256 : Int32)) - (((x1 / (256 : Int32)) / (1 : Int32)) * (1 : Int32))) ((x1 / (32768 : Int32)) - (((x1 / (32768 : Int32)) / (3 : Int32)) * (3 : Int32)))).2)) H := va_P_eq hP r_Mo_Ar3
                  have hD : va_D A (wMo cy a0 a1 a2 a3 a4 a5 a6 (mW' mo (m_X9_does (mW mo) (116 : Int32) ((x1 / (16 : Int32)) - (((x1 / (16 : Int32)) / (1 : Int32)) * (1 : Int32))) ((x1 / (256 : Int32)) - (((x1 / (256 : Int32)) / (1 : Int32)) * (1 : Int32))) ((x1 / (32768 : Int32)) - (((x1 / (32768 : Int32)) / (3 : Int32)) * (3 : Int32)))).2)) := va_D_eq hD r_Mo_Ar3
                  refine lv_pop hx hb dX9_turn_243 rfl ?_
                  refine lv_goto (tgt := 356) hx hb dX9_turn_244 (by decide) ?_
                  exact mu_vret hx hb hr hlocks hP hS dX9_turn_356 (by rw [m_X9_turn, if_pos c_1, if_pos c_12, if_pos c_13, if_neg c_14, if_pos c_15, if_neg c_16, if_neg c_17, if_neg c_18])
              · skip
                refine lv_aload_n hx hb dX9_turn_204 rfl (lv_at hl 6 rfl) ?_
                refine va_get (D := D) (ci := 7) (v := .ref a3) (C := RX9) (T := TX9) (N := 11) hx hb hts in_X9 hown hG.1 hP 0 g_Mo_0 rfl 4 (by decide) k_0 (fun _ h9 => h9) rfl dX9_turn_205 ?_
                refine lv_bipush (v := (118 : Int32)) hx hb dX9_turn_208 (by decide) ?_
                refine lv_iload_n hx hb dX9_turn_210 rfl (lv_at hl 4 rfl) ?_
                refine lv_iconst (v := (0 : Int32)) hx hb dX9_turn_211 (by decide) ?_
                refine lv_iconst (v := (0 : Int32)) hx hb dX9_turn_212 (by decide) ?_
                refine muS (A0 := A) (wc := (wAr cy a3 (mW mo))) (As := [.ref a3, .int (118 : Int32), .int ((x1 / (16 : Int32)) - (((x1 / (16 : Int32)) / (1 : Int32)) * (1 : Int32))), .int (0 : Int32), .int (0 : Int32)]) (rest := []) (c_X9_does l D cy a3 (mW mo) (118 : Int32) ((x1 / (16 : Int32)) - (((x1 / (16 : Int32)) / (1 : Int32)) * (1 : Int32))) (0 : Int32) (0 : Int32) hW) hCF gX9_turn_X9_does rfl hd_X9_does ⟨rfl, rfl, Nat.le_of_ble_eq_true rfl, Nat.le_of_ble_eq_true rfl⟩ hG hP hD hS hA [3] rfl c_Mo_Ar3 h_Ar rfl hl.1 rfl (Nat.le_of_ble_eq_true rfl) dX9_turn_213 ⟨Nat.le_refl _, Nat.le_refl _⟩ (fun H locs hP hD hS => ?_)
                have hP : va_P D vwCl (wMo cy a0 a1 a2 a3 a4 a5 a6 (mW' mo (m_X9_does (mW mo) (118 : Int32) ((x1 / (16 : Int32)) - (((x1 / (16 : Int32)) / (1 : Int32)) * (1 : Int32))) (0 : Int32) (0 : Int32)).2)) H := va_P_eq hP r_Mo_Ar3
                have hD : va_D A (wMo cy a0 a1 a2 a3 a4 a5 a6 (mW' mo (m_X9_does (mW mo) (118 : Int32) ((x1 / (16 : Int32)) - (((x1 / (16 : Int32)) / (1 : Int32)) * (1 : Int32))) (0 : Int32) (0 : Int32)).2)) := va_D_eq hD r_Mo_Ar3
                refine lv_pop hx hb dX9_turn_216 rfl ?_
                refine lv_goto (tgt := 356) hx hb dX9_turn_217 (by decide) ?_
                exact mu_vret hx hb hr hlocks hP hS dX9_turn_356 (by rw [m_X9_turn, if_pos c_1, if_pos c_12, if_pos c_13, if_neg c_14, if_pos c_15, if_neg c_16, if_pos c_17])
            · skip
              refine lv_aload_n hx hb dX9_turn_173 rfl (lv_at hl 6 rfl) ?_
              refine va_get (D := D) (ci := 7) (v := .ref a3) (C := RX9) (T := TX9) (N := 11) hx hb hts in_X9 hown hG.1 hP 0 g_Mo_0 rfl 4 (by decide) k_0 (fun _ h9 => h9) rfl dX9_turn_174 ?_
              refine lv_bipush (v := (97 : Int32)) hx hb dX9_turn_177 (by decide) ?_
              refine lv_iload hx hb dX9_turn_179 (lv_at hl 2 rfl) ?_
              refine lv_iload hx hb dX9_turn_181 (lv_at hl 3 rfl) ?_
              refine lv_iconst (v := (1 : Int32)) hx hb dX9_turn_183 (by decide) ?_
              refine lv_iload hx hb dX9_turn_184 (lv_at hl 1 rfl) ?_
              refine lv_bipush (v := (9 : Int32)) hx hb dX9_turn_186 (by decide) ?_
              refine lv_irem hx hb dX9_turn_188 (by decide) ?_
              refine lv_iadd hx hb dX9_turn_189 ?_
              refine muS (A0 := A) (wc := (wAr cy a3 (mW mo))) (As := [.ref a3, .int (97 : Int32), .int ((x1 / (4096 : Int32)) - (((x1 / (4096 : Int32)) / (5 : Int32)) * (5 : Int32))), .int ((x1 / (256 : Int32)) - (((x1 / (256 : Int32)) / (1 : Int32)) * (1 : Int32))), .int ((1 : Int32) + ((x1 / (32768 : Int32)) - (((x1 / (32768 : Int32)) / (9 : Int32)) * (9 : Int32))))]) (rest := []) (c_X9_does l D cy a3 (mW mo) (97 : Int32) ((x1 / (4096 : Int32)) - (((x1 / (4096 : Int32)) / (5 : Int32)) * (5 : Int32))) ((x1 / (256 : Int32)) - (((x1 / (256 : Int32)) / (1 : Int32)) * (1 : Int32))) ((1 : Int32) + ((x1 / (32768 : Int32)) - (((x1 / (32768 : Int32)) / (9 : Int32)) * (9 : Int32)))) hW) hCF gX9_turn_X9_does rfl hd_X9_does ⟨rfl, rfl, Nat.le_of_ble_eq_true rfl, Nat.le_of_ble_eq_true rfl⟩ hG hP hD hS hA [3] rfl c_Mo_Ar3 h_Ar rfl hl.1 rfl (Nat.le_of_ble_eq_true rfl) dX9_turn_190 ⟨Nat.le_refl _, Nat.le_refl _⟩ (fun H locs hP hD hS => ?_)
              have hP : va_P D vwCl (wMo cy a0 a1 a2 a3 a4 a5 a6 (mW' mo (m_X9_does (mW mo) (97 : Int32) ((x1 / (4096 : Int32)) - (((x1 / (4096 : Int32)) / (5 : Int32)) * (5 : Int32))) ((x1 / (256 : Int32)) - (((x1 / (256 : Int32)) / (1 : Int32)) * (1 : Int32))) ((1 : Int32) + ((x1 / (32768 : Int32)) - (((x1 / (32768 : Int32)) / (9 : Int32)) * (9 : Int32))))).2)) H := va_P_eq hP r_Mo_Ar3
              have hD : va_D A (wMo cy a0 a1 a2 a3 a4 a5 a6 (mW' mo (m_X9_does (mW mo) (97 : Int32) ((x1 / (4096 : Int32)) - (((x1 / (4096 : Int32)) / (5 : Int32)) * (5 : Int32))) ((x1 / (256 : Int32)) - (((x1 / (256 : Int32)) / (1 : Int32)) * (1 : Int32))) ((1 : Int32) + ((x1 / (32768 : Int32)) - (((x1 / (32768 : Int32)) / (9 : Int32)) * (9 : Int32))))).2)) := va_D_eq hD r_Mo_Ar3
              refine lv_pop hx hb dX9_turn_193 rfl ?_
              refine lv_goto (tgt := 356) hx hb dX9_turn_194 (by decide) ?_
              exact mu_vret hx hb hr hlocks hP hS dX9_turn_356 (by rw [m_X9_turn, if_pos c_1, if_pos c_12, if_pos c_13, if_neg c_14, if_pos c_15, if_pos c_16])
          · skip
            refine lv_aload_n hx hb dX9_turn_149 rfl (lv_at hl 6 rfl) ?_
            refine va_get (D := D) (ci := 7) (v := .ref a3) (C := RX9) (T := TX9) (N := 11) hx hb hts in_X9 hown hG.1 hP 0 g_Mo_0 rfl 4 (by decide) k_0 (fun _ h9 => h9) rfl dX9_turn_150 ?_
            refine lv_bipush (v := (120 : Int32)) hx hb dX9_turn_153 (by decide) ?_
            refine lv_iload_n hx hb dX9_turn_155 rfl (lv_at hl 4 rfl) ?_
            refine lv_iload hx hb dX9_turn_156 (lv_at hl 3 rfl) ?_
            refine lv_iconst (v := (0 : Int32)) hx hb dX9_turn_158 (by decide) ?_
            refine muS (A0 := A) (wc := (wAr cy a3 (mW mo))) (As := [.ref a3, .int (120 : Int32), .int ((x1 / (16 : Int32)) - (((x1 / (16 : Int32)) / (1 : Int32)) * (1 : Int32))), .int ((x1 / (256 : Int32)) - (((x1 / (256 : Int32)) / (1 : Int32)) * (1 : Int32))), .int (0 : Int32)]) (rest := []) (c_X9_does l D cy a3 (mW mo) (120 : Int32) ((x1 / (16 : Int32)) - (((x1 / (16 : Int32)) / (1 : Int32)) * (1 : Int32))) ((x1 / (256 : Int32)) - (((x1 / (256 : Int32)) / (1 : Int32)) * (1 : Int32))) (0 : Int32) hW) hCF gX9_turn_X9_does rfl hd_X9_does ⟨rfl, rfl, Nat.le_of_ble_eq_true rfl, Nat.le_of_ble_eq_true rfl⟩ hG hP hD hS hA [3] rfl c_Mo_Ar3 h_Ar rfl hl.1 rfl (Nat.le_of_ble_eq_true rfl) dX9_turn_159 ⟨Nat.le_refl _, Nat.le_refl _⟩ (fun H locs hP hD hS => ?_)
            have hP : va_P D vwCl (wMo cy a0 a1 a2 a3 a4 a5 a6 (mW' mo (m_X9_does (mW mo) (120 : Int32) ((x1 / (16 : Int32)) - (((x1 / (16 : Int32)) / (1 : Int32)) * (1 : Int32))) ((x1 / (256 : Int32)) - (((x1 / (256 : Int32)) / (1 : Int32)) * (1 : Int32))) (0 : Int32)).2)) H := va_P_eq hP r_Mo_Ar3
            have hD : va_D A (wMo cy a0 a1 a2 a3 a4 a5 a6 (mW' mo (m_X9_does (mW mo) (120 : Int32) ((x1 / (16 : Int32)) - (((x1 / (16 : Int32)) / (1 : Int32)) * (1 : Int32))) ((x1 / (256 : Int32)) - (((x1 / (256 : Int32)) / (1 : Int32)) * (1 : Int32))) (0 : Int32)).2)) := va_D_eq hD r_Mo_Ar3
            refine lv_pop hx hb dX9_turn_162 rfl ?_
            refine lv_goto (tgt := 356) hx hb dX9_turn_163 (by decide) ?_
            exact mu_vret hx hb hr hlocks hP hS dX9_turn_356 (by rw [m_X9_turn, if_pos c_1, if_pos c_12, if_pos c_13, if_neg c_14, if_neg c_15])
        · skip
          refine lv_aload_n hx hb dX9_turn_126 rfl (lv_at hl 6 rfl) ?_
          refine va_get (D := D) (ci := 7) (v := .ref a3) (C := RX9) (T := TX9) (N := 11) hx hb hts in_X9 hown hG.1 hP 0 g_Mo_0 rfl 4 (by decide) k_0 (fun _ h9 => h9) rfl dX9_turn_127 ?_
          refine lv_bipush (v := (114 : Int32)) hx hb dX9_turn_130 (by decide) ?_
          refine lv_iload_n hx hb dX9_turn_132 rfl (lv_at hl 4 rfl) ?_
          refine lv_iconst (v := (0 : Int32)) hx hb dX9_turn_133 (by decide) ?_
          refine lv_iconst (v := (0 : Int32)) hx hb dX9_turn_134 (by decide) ?_
          refine muS (A0 := A) (wc := (wAr cy a3 (mW mo))) (As := [.ref a3, .int (114 : Int32), .int ((x1 / (16 : Int32)) - (((x1 / (16 : Int32)) / (1 : Int32)) * (1 : Int32))), .int (0 : Int32), .int (0 : Int32)]) (rest := []) (c_X9_does l D cy a3 (mW mo) (114 : Int32) ((x1 / (16 : Int32)) - (((x1 / (16 : Int32)) / (1 : Int32)) * (1 : Int32))) (0 : Int32) (0 : Int32) hW) hCF gX9_turn_X9_does rfl hd_X9_does ⟨rfl, rfl, Nat.le_of_ble_eq_true rfl, Nat.le_of_ble_eq_true rfl⟩ hG hP hD hS hA [3] rfl c_Mo_Ar3 h_Ar rfl hl.1 rfl (Nat.le_of_ble_eq_true rfl) dX9_turn_135 ⟨Nat.le_refl _, Nat.le_refl _⟩ (fun H locs hP hD hS => ?_)
          have hP : va_P D vwCl (wMo cy a0 a1 a2 a3 a4 a5 a6 (mW' mo (m_X9_does (mW mo) (114 : Int32) ((x1 / (16 : Int32)) - (((x1 / (16 : Int32)) / (1 : Int32)) * (1 : Int32))) (0 : Int32) (0 : Int32)).2)) H := va_P_eq hP r_Mo_Ar3
          have hD : va_D A (wMo cy a0 a1 a2 a3 a4 a5 a6 (mW' mo (m_X9_does (mW mo) (114 : Int32) ((x1 / (16 : Int32)) - (((x1 / (16 : Int32)) / (1 : Int32)) * (1 : Int32))) (0 : Int32) (0 : Int32)).2)) := va_D_eq hD r_Mo_Ar3
          refine lv_pop hx hb dX9_turn_138 rfl ?_
          refine lv_goto (tgt := 356) hx hb dX9_turn_139 (by decide) ?_
          exact mu_vret hx hb hr hlocks hP hS dX9_turn_356 (by rw [m_X9_turn, if_pos c_1, if_pos c_12, if_pos c_13, if_pos c_14])
      · skip
        refine lv_aload_n hx hb dX9_turn_97 rfl (lv_at hl 6 rfl) ?_
        refine va_get (D := D) (ci := 7) (v := .ref a3) (C := RX9) (T := TX9) (N := 11) hx hb hts in_X9 hown hG.1 hP 0 g_Mo_0 rfl 4 (by decide) k_0 (fun _ h9 => h9) rfl dX9_turn_98 ?_
        refine lv_bipush (v := (108 : Int32)) hx hb dX9_turn_101 (by decide) ?_
        refine lv_iload_n hx hb dX9_turn_103 rfl (lv_at hl 4 rfl) ?_
        refine lv_iload hx hb dX9_turn_104 (lv_at hl 2 rfl) ?_
        refine lv_iconst (v := (1 : Int32)) hx hb dX9_turn_106 (by decide) ?_
        refine lv_iload hx hb dX9_turn_107 (lv_at hl 1 rfl) ?_
        refine lv_bipush (v := (9 : Int32)) hx hb dX9_turn_109 (by decide) ?_
        refine lv_irem hx hb dX9_turn_111 (by decide) ?_
        refine lv_iadd hx hb dX9_turn_112 ?_
        refine muS (A0 := A) (wc := (wAr cy a3 (mW mo))) (As := [.ref a3, .int (108 : Int32), .int ((x1 / (16 : Int32)) - (((x1 / (16 : Int32)) / (1 : Int32)) * (1 : Int32))), .int ((x1 / (4096 : Int32)) - (((x1 / (4096 : Int32)) / (5 : Int32)) * (5 : Int32))), .int ((1 : Int32) + ((x1 / (32768 : Int32)) - (((x1 / (32768 : Int32)) / (9 : Int32)) * (9 : Int32))))]) (rest := []) (c_X9_does l D cy a3 (mW mo) (108 : Int32) ((x1 / (16 : Int32)) - (((x1 / (16 : Int32)) / (1 : Int32)) * (1 : Int32))) ((x1 / (4096 : Int32)) - (((x1 / (4096 : Int32)) / (5 : Int32)) * (5 : Int32))) ((1 : Int32) + ((x1 / (32768 : Int32)) - (((x1 / (32768 : Int32)) / (9 : Int32)) * (9 : Int32)))) hW) hCF gX9_turn_X9_does rfl hd_X9_does ⟨rfl, rfl, Nat.le_of_ble_eq_true rfl, Nat.le_of_ble_eq_true rfl⟩ hG hP hD hS hA [3] rfl c_Mo_Ar3 h_Ar rfl hl.1 rfl (Nat.le_of_ble_eq_true rfl) dX9_turn_113 ⟨Nat.le_refl _, Nat.le_refl _⟩ (fun H locs hP hD hS => ?_)
        have hP : va_P D vwCl (wMo cy a0 a1 a2 a3 a4 a5 a6 (mW' mo (m_X9_does (mW mo) (108 : Int32) ((x1 / (16 : Int32)) - (((x1 / (16 : Int32)) / (1 : Int32)) * (1 : Int32))) ((x1 / (4096 : Int32)) - (((x1 / (4096 : Int32)) / (5 : Int32)) * (5 : Int32))) ((1 : Int32) + ((x1 / (32768 : Int32)) - (((x1 / (32768 : Int32)) / (9 : Int32)) * (9 : Int32))))).2)) H := va_P_eq hP r_Mo_Ar3
        have hD : va_D A (wMo cy a0 a1 a2 a3 a4 a5 a6 (mW' mo (m_X9_does (mW mo) (108 : Int32) ((x1 / (16 : Int32)) - (((x1 / (16 : Int32)) / (1 : Int32)) * (1 : Int32))) ((x1 / (4096 : Int32)) - (((x1 / (4096 : Int32)) / (5 : Int32)) * (5 : Int32))) ((1 : Int32) + ((x1 / (32768 : Int32)) - (((x1 / (32768 : Int32)) / (9 : Int32)) * (9 : Int32))))).2)) := va_D_eq hD r_Mo_Ar3
        refine lv_pop hx hb dX9_turn_116 rfl ?_
        refine lv_goto (tgt := 356) hx hb dX9_turn_117 (by decide) ?_
        exact mu_vret hx hb hr hlocks hP hS dX9_turn_356 (by rw [m_X9_turn, if_pos c_1, if_pos c_12, if_neg c_13])
    · skip
      refine lv_aload_n hx hb dX9_turn_63 rfl (lv_at hl 6 rfl) ?_
      refine va_get (D := D) (ci := 7) (v := .ref a3) (C := RX9) (T := TX9) (N := 11) hx hb hts in_X9 hown hG.1 hP 0 g_Mo_0 rfl 4 (by decide) k_0 (fun _ h9 => h9) rfl dX9_turn_64 ?_
      refine lv_bipush (v := (110 : Int32)) hx hb dX9_turn_67 (by decide) ?_
      refine lv_iload_n hx hb dX9_turn_69 rfl (lv_at hl 7 rfl) ?_
      refine lv_bipush (v := (16 : Int32)) hx hb dX9_turn_70 (by decide) ?_
      refine lv_idiv hx hb dX9_turn_72 (by decide) ?_
      refine lv_iconst (v := (3 : Int32)) hx hb dX9_turn_73 (by decide) ?_
      refine lv_irem hx hb dX9_turn_74 (by decide) ?_
      refine lv_iload hx hb dX9_turn_75 (lv_at hl 2 rfl) ?_
      refine lv_iload_n hx hb dX9_turn_77 rfl (lv_at hl 7 rfl) ?_
      refine lv_bipush (v := (64 : Int32)) hx hb dX9_turn_78 (by decide) ?_
      refine lv_idiv hx hb dX9_turn_80 (by decide) ?_
      refine lv_bipush (v := (8 : Int32)) hx hb dX9_turn_81 (by decide) ?_
      refine lv_irem hx hb dX9_turn_83 (by decide) ?_
      refine muS (A0 := A) (wc := (wAr cy a3 (mW mo))) (As := [.ref a3, .int (110 : Int32), .int ((x1 / (16 : Int32)) - (((x1 / (16 : Int32)) / (3 : Int32)) * (3 : Int32))), .int ((x1 / (4096 : Int32)) - (((x1 / (4096 : Int32)) / (5 : Int32)) * (5 : Int32))), .int ((x1 / (64 : Int32)) - (((x1 / (64 : Int32)) / (8 : Int32)) * (8 : Int32)))]) (rest := []) (c_X9_does l D cy a3 (mW mo) (110 : Int32) ((x1 / (16 : Int32)) - (((x1 / (16 : Int32)) / (3 : Int32)) * (3 : Int32))) ((x1 / (4096 : Int32)) - (((x1 / (4096 : Int32)) / (5 : Int32)) * (5 : Int32))) ((x1 / (64 : Int32)) - (((x1 / (64 : Int32)) / (8 : Int32)) * (8 : Int32))) hW) hCF gX9_turn_X9_does rfl hd_X9_does ⟨rfl, rfl, Nat.le_of_ble_eq_true rfl, Nat.le_of_ble_eq_true rfl⟩ hG hP hD hS hA [3] rfl c_Mo_Ar3 h_Ar rfl hl.1 rfl (Nat.le_of_ble_eq_true rfl) dX9_turn_84 ⟨Nat.le_refl _, Nat.le_refl _⟩ (fun H locs hP hD hS => ?_)
      have hP : va_P D vwCl (wMo cy a0 a1 a2 a3 a4 a5 a6 (mW' mo (m_X9_does (mW mo) (110 : Int32) ((x1 / (16 : Int32)) - (((x1 / (16 : Int32)) / (3 : Int32)) * (3 : Int32))) ((x1 / (4096 : Int32)) - (((x1 / (4096 : Int32)) / (5 : Int32)) * (5 : Int32))) ((x1 / (64 : Int32)) - (((x1 / (64 : Int32)) / (8 : Int32)) * (8 : Int32)))).2)) H := va_P_eq hP r_Mo_Ar3
      have hD : va_D A (wMo cy a0 a1 a2 a3 a4 a5 a6 (mW' mo (m_X9_does (mW mo) (110 : Int32) ((x1 / (16 : Int32)) - (((x1 / (16 : Int32)) / (3 : Int32)) * (3 : Int32))) ((x1 / (4096 : Int32)) - (((x1 / (4096 : Int32)) / (5 : Int32)) * (5 : Int32))) ((x1 / (64 : Int32)) - (((x1 / (64 : Int32)) / (8 : Int32)) * (8 : Int32)))).2)) := va_D_eq hD r_Mo_Ar3
      refine lv_pop hx hb dX9_turn_87 rfl ?_
      refine lv_goto (tgt := 356) hx hb dX9_turn_88 (by decide) ?_
      exact mu_vret hx hb hr hlocks hP hS dX9_turn_356 (by rw [m_X9_turn, if_pos c_1, if_neg c_12])
theorem rok_turn {mo : MoT} {a : Int32} (h : rOK (mW mo)) : rOK (mW (m_X9_turn mo a)) := by
  unfold m_X9_turn
  exact rokW_ite (fun c0 => rokW_ite (fun c1 => rokW_ite (fun c2 => rokW_ite (fun c3 => rokW_set (rok_does h)) (fun c3 => rokW_ite (fun c4 => rokW_ite (fun c5 => rokW_set (rok_does h)) (fun c5 => rokW_ite (fun c6 => rokW_set (rok_does h)) (fun c6 => rokW_ite (fun c7 => rokW_ite (fun c8 => rokW_set (rok_does h)) (fun c8 => rokW_ite (fun c9 => rokW_set (rok_does h)) (fun c9 => rokW_ite (fun c10 => rokW_set (rok_settle h c10)) (fun c10 => h)))) (fun c7 => rokW_set (rok_does h))))) (fun c4 => rokW_set (rok_does h)))) (fun c2 => rokW_set (rok_does h))) (fun c1 => rokW_set (rok_does h))) (fun c0 => rokW_ite (fun c1 => rokW_ite (fun c2 => rokW_ite (fun c3 => rokW_set (rok_does h)) (fun c3 => rokW_ite (fun c4 => rokW_ite (fun c5 => rokW_set (rok_does h)) (fun c5 => rokW_ite (fun c6 => rokW_set (rok_does h)) (fun c6 => rokW_ite (fun c7 => rokW_ite (fun c8 => rokW_set (rok_does h)) (fun c8 => rokW_ite (fun c9 => rokW_set (rok_does h)) (fun c9 => rokW_ite (fun c10 => rokW_set (rok_settle h c10)) (fun c10 => h)))) (fun c7 => rokW_set (rok_does h))))) (fun c4 => rokW_set (rok_does h)))) (fun c2 => rokW_set (rok_does h))) (fun c1 => rokW_set (rok_does h)))
theorem rok_command {mo : MoT} {a b : Int32} (h : rOK (mW mo)) : rOK (mW (m_X9_command mo a b).2) := by
  unfold m_X9_command
  exact rokW2_ite (fun c0 => rokW_pr (rokW_set (rok_does h))) (fun c0 => rokW2_ite (fun c1 => rokW2_ite (fun c2 => rokW_pr h) (fun c2 => rokW2_ite (fun c3 => rokW_pr (rokW_set (rok_does h))) (fun c3 => rokW_pr (rokW_set (rok_does h))))) (fun c1 => rokW2_ite (fun c2 => rokW2_ite (fun c3 => rokW2_ite (fun c4 => rokW_pr (rokW_set (rok_does h))) (fun c4 => rokW_pr (rokW_set (rok_does h)))) (fun c3 => rokW_pr h)) (fun c2 => rokW2_ite (fun c3 => rokW_pr (rokW_set (rok_does h))) (fun c3 => rokW2_ite (fun c4 => rokW2_ite (fun c5 => rokW_pr h) (fun c5 => rokW2_ite (fun c6 => rokW_pr (rokW_set (rok_does h))) (fun c6 => rokW_pr (rokW_set (rok_does h))))) (fun c4 => rokW2_ite (fun c5 => rokW2_ite (fun c6 => rokW2_ite (fun c7 => rokW_pr (rokW_set (rok_does h))) (fun c7 => rokW_pr (rokW_set (rok_does h)))) (fun c6 => rokW_pr h)) (fun c5 => rokW2_ite (fun c6 => rokW2_ite (fun c7 => rokW2_ite (fun c8 => rokW_pr h) (fun c8 => rokW2_ite (fun c9 => rokW_pr h) (fun c9 => rokW2_ite (fun c10 => rokW_pr h) (fun c10 => rokW_pr h)))) (fun c7 => rokW_pr h)) (fun c6 => rokW2_ite (fun c7 => rokW2_ite (fun c8 => rokW2_ite (fun c9 => rokW_pr h) (fun c9 => rokW2_ite (fun c10 => rokW_pr h) (fun c10 => rokW_pr h))) (fun c8 => rokW_pr h)) (fun c7 => rokW2_ite (fun c8 => rokW2_ite (fun c9 => rokW_pr h) (fun c9 => rokW2_ite (fun c10 => rokW_pr h) (fun c10 => rokW_pr h))) (fun c8 => rokW_pr h)))))))))
/-- the powers of a million that a script is read by -/
def pw : Nat → Int64
  | 0 => 1
  | 1 => 1000000
  | 2 => 1000000000000
  | _ => 1000000000000000000
def pwOK (n : Int32) (al : Int64) (k : Int32) : Prop := ∃ j : Nat, j ≤ 3 ∧ n.toInt - k.toInt = j ∧ al = pw j
theorem pw_div : ∀ j : Nat, j < 3 → pw (j + 1) / 1000000 = pw j := by decide +kernel
theorem pw_ne0 : ∀ j : Nat, j < 3 → ¬ pw j = 0 := by decide +kernel
theorem pw_at {n k : Int32} {al : Int64} (h : pwOK n al k) (h0 : 0 ≤ k.toInt) (c : ¬ n ≤ k) : ∃ j : Nat, j < 3 ∧ n.toInt - k.toInt = j + 1 ∧ al / 1000000 = pw j := by
  obtain ⟨j, h1, h2, h3⟩ := h
  rw [i32_le] at c
  obtain ⟨i, rfl⟩ : ∃ i, j = i + 1 := ⟨j - 1, by omega⟩
  exact ⟨i, by omega, by omega, by rw [h3]; exact pw_div i (by omega)⟩
theorem pw_ne {n k : Int32} {al : Int64} (h : pwOK n al k) (h0 : 0 ≤ k.toInt) (c : ¬ n ≤ k) : ¬ al / 1000000 = 0 := by
  obtain ⟨j, h1, -, h3⟩ := pw_at h h0 c
  rw [h3]
  exact pw_ne0 j h1
theorem pw_step {n k : Int32} {al : Int64} (h : pwOK n al k) (h0 : 0 ≤ k.toInt) (c : ¬ n ≤ k) : pwOK n (al / 1000000) (k + 1) := by
  obtain ⟨j, h1, h2, h3⟩ := pw_at h h0 c
  exact ⟨j, by omega, by rw [lp_s c]; omega, h3⟩
theorem pw_m {n : Int32} (c : ¬ m_X9_in n.toInt64 1 3 = 0) : (n.toInt - (0 : Int32).toInt).toNat < 100 := by
  have h := iv_min (lo := 1) (hi := 3) c
  have := h.2
  rw [i32_0]
  omega
theorem si_m {n : Int32} (c : ¬ m_X9_in n.toInt64 1 99 = 0) : (n.toInt - (0 : Int32).toInt).toNat < 1000 := by
  have h := iv_min (lo := 1) (hi := 99) c
  have := h.2
  rw [i32_0]
  omega
theorem n123 {n : Int32} (c : ¬ m_X9_in n.toInt64 1 3 = 0) : n = 1 ∨ n = 2 ∨ n = 3 := by
  have h := iv_min (lo := 1) (hi := 3) c
  have := h.1
  have := h.2
  rcases (show n.toInt = 1 ∨ n.toInt = 2 ∨ n.toInt = 3 by omega) with e | e | e
  · exact Or.inl (Int32.toInt_inj.mp (by rw [e]; decide))
  · exact Or.inr (Or.inl (Int32.toInt_inj.mp (by rw [e]; decide)))
  · exact Or.inr (Or.inr (Int32.toInt_inj.mp (by rw [e]; decide)))
def m_X9_runScript_L86 : Nat → MoT → Int32 → Int64 → Int64 → Int32 → Int32 × MoT
  | 0, r, _, _, _, _ => (0, r)
  | nF + 1, r, x1, x2, al, k => if x1 ≤ k then ((-1 : Int32), r) else if (m_X9_command r (((x2 / (al / (1000000 : Int64))) - (((x2 / (al / (1000000 : Int64))) / (1000000 : Int64)) * (1000000 : Int64))).toInt32 / (100000 : Int32)) (((x2 / (al / (1000000 : Int64))) - (((x2 / (al / (1000000 : Int64))) / (1000000 : Int64)) * (1000000 : Int64))).toInt32 - ((((x2 / (al / (1000000 : Int64))) - (((x2 / (al / (1000000 : Int64))) / (1000000 : Int64)) * (1000000 : Int64))).toInt32 / (100000 : Int32)) * (100000 : Int32)))).1 = (0 : Int32) then (k, (m_X9_command r (((x2 / (al / (1000000 : Int64))) - (((x2 / (al / (1000000 : Int64))) / (1000000 : Int64)) * (1000000 : Int64))).toInt32 / (100000 : Int32)) (((x2 / (al / (1000000 : Int64))) - (((x2 / (al / (1000000 : Int64))) / (1000000 : Int64)) * (1000000 : Int64))).toInt32 - ((((x2 / (al / (1000000 : Int64))) - (((x2 / (al / (1000000 : Int64))) / (1000000 : Int64)) * (1000000 : Int64))).toInt32 / (100000 : Int32)) * (100000 : Int32)))).2) else m_X9_runScript_L86 nF (m_X9_command r (((x2 / (al / (1000000 : Int64))) - (((x2 / (al / (1000000 : Int64))) / (1000000 : Int64)) * (1000000 : Int64))).toInt32 / (100000 : Int32)) (((x2 / (al / (1000000 : Int64))) - (((x2 / (al / (1000000 : Int64))) / (1000000 : Int64)) * (1000000 : Int64))).toInt32 - ((((x2 / (al / (1000000 : Int64))) - (((x2 / (al / (1000000 : Int64))) / (1000000 : Int64)) * (1000000 : Int64))).toInt32 / (100000 : Int32)) * (100000 : Int32)))).2 x1 x2 (al / (1000000 : Int64)) (k + (1 : Int32))
def m_X9_runScript_L6 : Nat → MoT → Int32 → Int64 → Int64 → Int32 → Int64 × Int32
  | 0, _, _, _, _, _ => (0, 0)
  | nF + 1, mo, x1, x2, al, k => if x1 ≤ k then (al, k) else if (3 : Int32) ≤ k then (al, k) else m_X9_runScript_L6 nF mo x1 x2 (al * (1000000 : Int64)) (k + (1 : Int32))
def m_X9_runScript (mo : MoT) (x1 : Int32) (x2 : Int64) : Int32 × MoT := if (m_X9_in x1.toInt64 (1 : Int64) (3 : Int64)) = (0 : Int32) then ((0 : Int32), mR' mo (1 : Int32)) else if (m_X9_in x2 (0 : Int64) ((m_X9_runScript_L6 100 mo x1 x2 (1 : Int64) (0 : Int32)).1 - (1 : Int64))) = (0 : Int32) then ((0 : Int32), mR' mo (1 : Int32)) else m_X9_runScript_L86 100 (mW' (mR' mo (0 : Int32)) (m_X9_copyState (mN mo) (mW mo) (0 : Int32) (0 : Int32))) x1 x2 (m_X9_runScript_L6 100 mo x1 x2 (1 : Int64) (0 : Int32)).1 (0 : Int32)
theorem pw_init {mo : MoT} {x1 : Int32} {x2 : Int64} (c : ¬ m_X9_in x1.toInt64 1 3 = 0) : pwOK x1 (m_X9_runScript_L6 100 mo x1 x2 1 0).1 0 := by
  rcases n123 c with rfl | rfl | rfl
  · refine ⟨1, by omega, by decide, ?_⟩
    rw [m_X9_runScript_L6, if_neg (by decide), if_neg (by decide), m_X9_runScript_L6, if_pos (by decide)]
    decide
  · refine ⟨2, by omega, by decide, ?_⟩
    rw [m_X9_runScript_L6, if_neg (by decide), if_neg (by decide), m_X9_runScript_L6, if_neg (by decide), if_neg (by decide), m_X9_runScript_L6, if_pos (by decide)]
    decide
  · refine ⟨3, by omega, by decide, ?_⟩
    rw [m_X9_runScript_L6, if_neg (by decide), if_neg (by decide), m_X9_runScript_L6, if_neg (by decide), if_neg (by decide), m_X9_runScript_L6, if_neg (by decide), if_neg (by decide), m_X9_runScript_L6, if_pos (by decide)]
    decide
theorem hd_X9_runScript : yX9_runScript.cls = RX9 ∧ yX9_runScript.cls ≠ "java/lang/invoke/MethodHandle" ∧ yX9_runScript.cls ≠ "java/lang/invoke/VarHandle" ∧ (parseMethodDescriptor yX9_runScript.desc).map (fun d => d.parameters.length) = some 2 := by decide +kernel
set_option maxHeartbeats 8000000 in
set_option maxRecDepth 20000 in
theorem c_X9_runScript (l : Launch) (D : va_G) (cy : Nat → ClassId) (a0 a1 a2 a3 a4 a5 a6 : Nat) (mo : MoT) (x1 : Int32) (x2 : Int64) (hM : rOK (mN mo)) : MU l D cy yX9_runScript wsX9_runScript ({ frames := 6, cells := 0, slots := 0, locals := 140 } : Room) (wMo cy a0 a1 a2 a3 a4 a5 a6 mo) (wMo cy a0 a1 a2 a3 a4 a5 a6 (m_X9_runScript mo x1 x2).2) [.ref a0, .int x1, .long x2] (m_X9_runScript mo x1 x2).1 := by
  refine MU.body (by decide) rfl (Nat.le_of_ble_eq_true rfl) ?_
  intro p e s m below meth c hx hb hml hr hts hown hlocks hP hG ls hl A hD hA hS
  have hl : lv_has ls 8 [(0, .ref a0), (1, .int x1), (2, .long x2)] := hl
  have hCF : CallFix p m c cX9_runScript 8 s ([.ref a0, .int x1, .long x2] : List Value).toArray wsX9_runScript RX9 := ⟨hx, hb, hml, hown, hts⟩
  have in_X9 : ∀ w ∈ u_ws RX9 TX9 11, w ∈ wsX9_runScript := fun _ h => List.mem_cons_of_mem _ (List.mem_append_right _ h)
  have k_0 := hts (Cond.constantLong RX9 236 (1000000)) (List.mem_of_getElem? (i := 1) rfl)
  have k_1 := hts (Cond.constant RX9 240 (100000)) (List.mem_of_getElem? (i := 5) rfl)
  have k_2 := hts (Cond.constantLong RX9 238 (3)) (List.mem_of_getElem? (i := 2) rfl)
  have k_3 := hts (Cond.fieldLink RX9 13 "SparePoolModel" "now" "[I") (List.mem_of_getElem? (i := 3) rfl)
  have k_4 := hts (Cond.fieldLink RX9 16 "SparePoolModel" "trial" "[I") (List.mem_of_getElem? (i := 4) rfl)
  have hP : va_P D vwCl (wMo cy a0 a1 a2 a3 a4 a5 a6 mo) s.heap := hP
  have L_86 : ∀ (nF : Nat) (r : MoT) (al : Int64) (k : Int32), 0 ≤ k.toInt → rOK (mW r) → ¬ m_X9_in x1.toInt64 1 3 = 0 → pwOK x1 al k → (x1.toInt - k.toInt).toNat < nF → m_X9_runScript_L86 nF r x1 x2 al k = (m_X9_runScript mo x1 x2) → ∀ (H : Heap) (locs : List Loc), va_P D vwCl (wMo cy a0 a1 a2 a3 a4 a5 a6 r) H → va_D A (wMo cy a0 a1 a2 a3 a4 a5 a6 r) → va_S A s.heap H locs → ∀ ls : Array Slot, lv_has ls 8 [(0, .ref a0), (1, .int x1), (2, .long x2), (4, .long al), (6, .int k)] → W p l e ({ frames := 6, cells := 0, slots := 0, locals := 140 } : Room) s m ([.ref a0, .int x1, .long x2] : List Value).toArray below meth c H locs 0 0 (MQ below (va_Qi (fun v_ (_ : Unit) => v_ = (m_X9_runScript mo x1 x2).1) (fun _ t => va_P D vwCl (wMo cy a0 a1 a2 a3 a4 a5 a6 (m_X9_runScript mo x1 x2).2) t.heap) A) ([.ref a0, .int x1, .long x2] : List Value).toArray s 0 0 A) (F0 m 86 ls []) := by
    intro nF
    induction nF with
    | zero => intro r al k h0 hW hn hp hm; exact absurd hm (Nat.not_lt_zero _)
    | succ nF ih =>
      intro r al k h0 hW hn hp hm hQ H locs hP hD hS ls hl
      refine lv_iload hx hb dX9_runScript_86 (lv_at hl 4 rfl) ?_
      refine lv_iload_n hx hb dX9_runScript_88 rfl (lv_at hl 1 rfl) ?_
      refine lv_icmp_ge (tgt := 137) hx hb dX9_runScript_89 (by decide) (fun c_1 => ?_) (fun c_1 => ?_)
      · skip
        refine lv_iconst (v := (-1 : Int32)) hx hb dX9_runScript_137 (by decide) ?_
        exact mu_iret hx hb hr hlocks hP hS dX9_runScript_138 (by rw [← hQ, m_X9_runScript_L86, if_pos c_1]) (by rw [← hQ, m_X9_runScript_L86, if_pos c_1])
      · skip
        refine lv_lload hx hb dX9_runScript_92 (lv_at hl 3 rfl) ?_
        refine lv_ldc2 (v := (1000000 : Int64)) hx hb hown k_0 dX9_runScript_94 ?_
        refine lv_ldiv hx hb dX9_runScript_97 (by decide) ?_
        refine lv_lstore (lv' := [(4, .long (al / (1000000 : Int64))), (0, .ref a0), (1, .int x1), (2, .long x2), (6, .int k)]) hx hb dX9_runScript_98 hl (by decide) rfl (fun ls hl => ?_)
        refine lv_lload_n hx hb dX9_runScript_100 rfl (lv_at hl 3 rfl) ?_
        refine lv_lload hx hb dX9_runScript_101 (lv_at hl 0 rfl) ?_
        refine lv_ldiv hx hb dX9_runScript_103 (pw_ne hp h0 c_1) ?_
        refine lv_ldc2 (v := (1000000 : Int64)) hx hb hown k_0 dX9_runScript_104 ?_
        refine lv_lrem hx hb dX9_runScript_107 (by decide) ?_
        refine lv_l2i hx hb dX9_runScript_108 rfl ?_
        refine lv_istore (lv' := [(7, .int ((x2 / (al / (1000000 : Int64))) - (((x2 / (al / (1000000 : Int64))) / (1000000 : Int64)) * (1000000 : Int64))).toInt32), (4, .long (al / (1000000 : Int64))), (0, .ref a0), (1, .int x1), (2, .long x2), (6, .int k)]) hx hb dX9_runScript_109 hl (by decide) rfl (fun ls hl => ?_)
        refine lv_aload_n hx hb dX9_runScript_111 rfl (lv_at hl 2 rfl) ?_
        refine lv_iload hx hb dX9_runScript_112 (lv_at hl 0 rfl) ?_
        refine lv_ldc (v := (100000 : Int32)) hx hb hown k_1 dX9_runScript_114 ?_
        refine lv_idiv hx hb dX9_runScript_116 (by decide) ?_
        refine lv_iload hx hb dX9_runScript_117 (lv_at hl 0 rfl) ?_
        refine lv_ldc (v := (100000 : Int32)) hx hb hown k_1 dX9_runScript_119 ?_
        refine lv_irem hx hb dX9_runScript_121 (by decide) ?_
        refine muV (A0 := A) (wc := (wMo cy a0 a1 a2 a3 a4 a5 a6 r)) (As := [.int (((x2 / (al / (1000000 : Int64))) - (((x2 / (al / (1000000 : Int64))) / (1000000 : Int64)) * (1000000 : Int64))).toInt32 / (100000 : Int32)), .int (((x2 / (al / (1000000 : Int64))) - (((x2 / (al / (1000000 : Int64))) / (1000000 : Int64)) * (1000000 : Int64))).toInt32 - ((((x2 / (al / (1000000 : Int64))) - (((x2 / (al / (1000000 : Int64))) / (1000000 : Int64)) * (1000000 : Int64))).toInt32 / (100000 : Int32)) * (100000 : Int32)))]) (rest := []) (c_X9_command l D cy a0 a1 a2 a3 a4 a5 a6 r (((x2 / (al / (1000000 : Int64))) - (((x2 / (al / (1000000 : Int64))) / (1000000 : Int64)) * (1000000 : Int64))).toInt32 / (100000 : Int32)) (((x2 / (al / (1000000 : Int64))) - (((x2 / (al / (1000000 : Int64))) / (1000000 : Int64)) * (1000000 : Int64))).toInt32 - ((((x2 / (al / (1000000 : Int64))) - (((x2 / (al / (1000000 : Int64))) / (1000000 : Int64)) * (1000000 : Int64))).toInt32 / (100000 : Int32)) * (100000 : Int32))) hW) hCF gX9_runScript_X9_command rfl hd_X9_command ⟨rfl, rfl, Nat.le_of_ble_eq_true rfl, Nat.le_of_ble_eq_true rfl⟩ hG hP hD hS hA [0, 1, 2, 3, 4, 5, 6] rfl c_Mo_Mo h_Mo (ci := 7) rfl rfl g_Mo_0 rfl hl.1 rfl (Nat.le_of_ble_eq_true rfl) dX9_runScript_122 ⟨Nat.le_refl _, Nat.le_refl _⟩ (fun H locs hP hD hS => ?_)
        have hP : va_P D vwCl (wMo cy a0 a1 a2 a3 a4 a5 a6 (m_X9_command r (((x2 / (al / (1000000 : Int64))) - (((x2 / (al / (1000000 : Int64))) / (1000000 : Int64)) * (1000000 : Int64))).toInt32 / (100000 : Int32)) (((x2 / (al / (1000000 : Int64))) - (((x2 / (al / (1000000 : Int64))) / (1000000 : Int64)) * (1000000 : Int64))).toInt32 - ((((x2 / (al / (1000000 : Int64))) - (((x2 / (al / (1000000 : Int64))) / (1000000 : Int64)) * (1000000 : Int64))).toInt32 / (100000 : Int32)) * (100000 : Int32)))).2) H := va_P_eq hP r_Mo_Mo
        have hD : va_D A (wMo cy a0 a1 a2 a3 a4 a5 a6 (m_X9_command r (((x2 / (al / (1000000 : Int64))) - (((x2 / (al / (1000000 : Int64))) / (1000000 : Int64)) * (1000000 : Int64))).toInt32 / (100000 : Int32)) (((x2 / (al / (1000000 : Int64))) - (((x2 / (al / (1000000 : Int64))) / (1000000 : Int64)) * (1000000 : Int64))).toInt32 - ((((x2 / (al / (1000000 : Int64))) - (((x2 / (al / (1000000 : Int64))) / (1000000 : Int64)) * (1000000 : Int64))).toInt32 / (100000 : Int32)) * (100000 : Int32)))).2) := va_D_eq hD r_Mo_Mo
        refine lv_if_ne (tgt := 131) hx hb dX9_runScript_125 (by decide) (fun c_2 => ?_) (fun c_2 => ?_)
        · skip
          refine lv_iinc (v := (k + (1 : Int32))) (lv' := [(6, .int (k + (1 : Int32))), (7, .int ((x2 / (al / (1000000 : Int64))) - (((x2 / (al / (1000000 : Int64))) / (1000000 : Int64)) * (1000000 : Int64))).toInt32), (4, .long (al / (1000000 : Int64))), (0, .ref a0), (1, .int x1), (2, .long x2)]) hx hb dX9_runScript_131 hl (k := 5) rfl rfl (by decide) rfl (fun ls hl => ?_)
          refine lv_goto (tgt := 86) hx hb dX9_runScript_134 (by decide) ?_
          exact ih  (m_X9_command r (((x2 / (al / (1000000 : Int64))) - (((x2 / (al / (1000000 : Int64))) / (1000000 : Int64)) * (1000000 : Int64))).toInt32 / (100000 : Int32)) (((x2 / (al / (1000000 : Int64))) - (((x2 / (al / (1000000 : Int64))) / (1000000 : Int64)) * (1000000 : Int64))).toInt32 - ((((x2 / (al / (1000000 : Int64))) - (((x2 / (al / (1000000 : Int64))) / (1000000 : Int64)) * (1000000 : Int64))).toInt32 / (100000 : Int32)) * (100000 : Int32)))).2 (al / (1000000 : Int64)) (k + (1 : Int32)) (lp_up h0 c_1) (rok_command hW) hn (pw_step hp h0 c_1) (lp_dec h0 c_1 hm) (by rw [← hQ, m_X9_runScript_L86, if_neg c_1, if_neg c_2]) H locs hP hD hS ls (lv_sub hl [3, 4, 5, 2, 0] rfl)
        · skip
          refine lv_iload hx hb dX9_runScript_128 (lv_at hl 5 rfl) ?_
          exact mu_iret hx hb hr hlocks hP hS dX9_runScript_130 (by rw [← hQ, m_X9_runScript_L86, if_neg c_1, if_pos c_2]) (by rw [← hQ, m_X9_runScript_L86, if_neg c_1, if_pos c_2])
  have L_6 : ∀ (nF : Nat) (al : Int64) (k : Int32), 0 ≤ k.toInt → ((3 : Int32).toInt - k.toInt).toNat < nF → ∀ (H : Heap) (locs : List Loc), va_P D vwCl (wMo cy a0 a1 a2 a3 a4 a5 a6 mo) H → va_D A (wMo cy a0 a1 a2 a3 a4 a5 a6 mo) → va_S A s.heap H locs → (∀ ls : Array Slot, lv_has ls 8 [(0, .ref a0), (1, .int x1), (2, .long x2), (4, .long (m_X9_runScript_L6 nF mo x1 x2 al k).1), (6, .int (m_X9_runScript_L6 nF mo x1 x2 al k).2)] → W p l e ({ frames := 6, cells := 0, slots := 0, locals := 140 } : Room) s m ([.ref a0, .int x1, .long x2] : List Value).toArray below meth c H locs 0 0 (MQ below (va_Qi (fun v_ (_ : Unit) => v_ = (m_X9_runScript mo x1 x2).1) (fun _ t => va_P D vwCl (wMo cy a0 a1 a2 a3 a4 a5 a6 (m_X9_runScript mo x1 x2).2) t.heap) A) ([.ref a0, .int x1, .long x2] : List Value).toArray s 0 0 A) (F0 m 32 ls [])) → ∀ ls : Array Slot, lv_has ls 8 [(0, .ref a0), (1, .int x1), (2, .long x2), (4, .long al), (6, .int k)] → W p l e ({ frames := 6, cells := 0, slots := 0, locals := 140 } : Room) s m ([.ref a0, .int x1, .long x2] : List Value).toArray below meth c H locs 0 0 (MQ below (va_Qi (fun v_ (_ : Unit) => v_ = (m_X9_runScript mo x1 x2).1) (fun _ t => va_P D vwCl (wMo cy a0 a1 a2 a3 a4 a5 a6 (m_X9_runScript mo x1 x2).2) t.heap) A) ([.ref a0, .int x1, .long x2] : List Value).toArray s 0 0 A) (F0 m 6 ls []) := by
    intro nF
    induction nF with
    | zero => intro al k h0 hm; exact absurd hm (Nat.not_lt_zero _)
    | succ nF ih =>
      intro al k h0 hm H locs hP hD hS K ls hl
      refine lv_iload hx hb dX9_runScript_6 (lv_at hl 4 rfl) ?_
      refine lv_iload_n hx hb dX9_runScript_8 rfl (lv_at hl 1 rfl) ?_
      refine lv_icmp_ge (tgt := 32) hx hb dX9_runScript_9 (by decide) (fun c_3 => ?_) (fun c_3 => ?_)
      · skip
        rw [m_X9_runScript_L6, if_pos c_3] at K
        exact K ls (lv_sub hl [0, 1, 2, 3, 4] rfl)
      · skip
        refine lv_iload hx hb dX9_runScript_12 (lv_at hl 4 rfl) ?_
        refine lv_iconst (v := (3 : Int32)) hx hb dX9_runScript_14 (by decide) ?_
        refine lv_icmp_ge (tgt := 32) hx hb dX9_runScript_15 (by decide) (fun c_4 => ?_) (fun c_4 => ?_)
        · skip
          rw [m_X9_runScript_L6, if_neg c_3, if_pos c_4] at K
          exact K ls (lv_sub hl [0, 1, 2, 3, 4] rfl)
        · skip
          refine lv_lload hx hb dX9_runScript_18 (lv_at hl 3 rfl) ?_
          refine lv_ldc2 (v := (1000000 : Int64)) hx hb hown k_0 dX9_runScript_20 ?_
          refine lv_lmul hx hb dX9_runScript_23 ?_
          refine lv_lstore (lv' := [(4, .long (al * (1000000 : Int64))), (0, .ref a0), (1, .int x1), (2, .long x2), (6, .int k)]) hx hb dX9_runScript_24 hl (by decide) rfl (fun ls hl => ?_)
          refine lv_iinc (v := (k + (1 : Int32))) (lv' := [(6, .int (k + (1 : Int32))), (4, .long (al * (1000000 : Int64))), (0, .ref a0), (1, .int x1), (2, .long x2)]) hx hb dX9_runScript_26 hl (k := 4) rfl rfl (by decide) rfl (fun ls hl => ?_)
          refine lv_goto (tgt := 6) hx hb dX9_runScript_29 (by decide) ?_
          refine ih (al * (1000000 : Int64)) (k + (1 : Int32)) (lp_up h0 c_4) (lp_dec h0 c_4 hm) H locs hP hD hS (by rw [m_X9_runScript_L6, if_neg c_3, if_neg c_4] at K; exact K) ls (lv_sub hl [2, 3, 4, 1, 0] rfl)
  refine lv_lconst (v := (1 : Int64)) hx hb dX9_runScript_0 (by decide) ?_
  refine lv_lstore (lv' := [(4, .long (1 : Int64)), (0, .ref a0), (1, .int x1), (2, .long x2)]) hx hb dX9_runScript_1 hl (by decide) rfl (fun ls hl => ?_)
  refine lv_iconst (v := (0 : Int32)) hx hb dX9_runScript_3 (by decide) ?_
  refine lv_istore (lv' := [(6, .int (0 : Int32)), (4, .long (1 : Int64)), (0, .ref a0), (1, .int x1), (2, .long x2)]) hx hb dX9_runScript_4 hl (by decide) rfl (fun ls hl => ?_)
  refine L_6 100 (1 : Int64) (0 : Int32) (by decide) (lp_init (M := 3) (by decide) (by decide)) s.heap [] hP hD hS (fun ls hl => ?_) ls (lv_sub hl [2, 3, 4, 1, 0] rfl)
  have hl : lv_has ls 8 [(0, .ref a0), (1, .int x1), (2, .long x2), (4, .long (m_X9_runScript_L6 100 mo x1 x2 (1 : Int64) (0 : Int32)).1), (6, .int (m_X9_runScript_L6 100 mo x1 x2 (1 : Int64) (0 : Int32)).2)] := hl
  refine lv_aload_n hx hb dX9_runScript_32 rfl (lv_at hl 0 rfl) ?_
  refine lv_iload_n hx hb dX9_runScript_33 rfl (lv_at hl 1 rfl) ?_
  refine lv_i2l hx hb dX9_runScript_34 rfl ?_
  refine lv_lconst (v := (1 : Int64)) hx hb dX9_runScript_35 (by decide) ?_
  refine lv_ldc2 (v := (3 : Int64)) hx hb hown k_2 dX9_runScript_36 ?_
  refine roS (wc := ([] : va_W)) (As := [.long x1.toInt64, .long (1 : Int64), .long (3 : Int64)]) (rest := [.ref a0]) (c_X9_in l D cy x1.toInt64 (1 : Int64) (3 : Int64)) hCF gX9_runScript_X9_in rfl hd_X9_in ⟨rfl, rfl, Nat.le_of_ble_eq_true rfl, Nat.le_of_ble_eq_true rfl⟩ hG va_P_nil rfl hl.1 rfl (Nat.le_of_ble_eq_true rfl) dX9_runScript_39 ⟨Nat.le_refl _, Nat.le_refl _⟩ ?_
  refine lv_if_eq (tgt := 61) hx hb dX9_runScript_42 (by decide) (fun c_5 => ?_) (fun c_5 => ?_)
  · skip
    refine lv_iconst (v := (1 : Int32)) hx hb dX9_runScript_61 (by decide) ?_
    refine muV (A0 := A) (wc := (wMo cy a0 a1 a2 a3 a4 a5 a6 mo)) (As := [.int (1 : Int32)]) (rest := []) (c_X9_refused l D cy a0 a1 a2 a3 a4 a5 a6 mo (1 : Int32)) hCF gX9_runScript_X9_refused rfl hd_X9_refused ⟨rfl, rfl, Nat.le_of_ble_eq_true rfl, Nat.le_of_ble_eq_true rfl⟩ hG hP hD hS hA [0, 1, 2, 3, 4, 5, 6] rfl c_Mo_Mo h_Mo (ci := 7) rfl rfl g_Mo_0 rfl hl.1 rfl (Nat.le_of_ble_eq_true rfl) dX9_runScript_62 ⟨Nat.le_refl _, Nat.le_refl _⟩ (fun H locs hP hD hS => ?_)
    have hP : va_P D vwCl (wMo cy a0 a1 a2 a3 a4 a5 a6 (mR' mo (1 : Int32))) H := va_P_eq hP r_Mo_Mo
    have hD : va_D A (wMo cy a0 a1 a2 a3 a4 a5 a6 (mR' mo (1 : Int32))) := va_D_eq hD r_Mo_Mo
    refine lv_if_eq (tgt := 70) hx hb dX9_runScript_65 (by decide) (fun c => absurd c (rf_lit1 _)) (fun _ => ?_)
    refine lv_iconst (v := (0 : Int32)) hx hb dX9_runScript_68 (by decide) ?_
    exact mu_iret hx hb hr hlocks hP hS dX9_runScript_69 (by rw [m_X9_runScript, if_pos c_5]) (by rw [m_X9_runScript, if_pos c_5])
  · skip
    refine lv_lload_n hx hb dX9_runScript_45 rfl (lv_at hl 2 rfl) ?_
    refine lv_lconst (v := (0 : Int64)) hx hb dX9_runScript_46 (by decide) ?_
    refine lv_lload hx hb dX9_runScript_47 (lv_at hl 3 rfl) ?_
    refine lv_lconst (v := (1 : Int64)) hx hb dX9_runScript_49 (by decide) ?_
    refine lv_lsub hx hb dX9_runScript_50 ?_
    refine roS (wc := ([] : va_W)) (As := [.long x2, .long (0 : Int64), .long ((m_X9_runScript_L6 100 mo x1 x2 (1 : Int64) (0 : Int32)).1 - (1 : Int64))]) (rest := [.ref a0]) (c_X9_in l D cy x2 (0 : Int64) ((m_X9_runScript_L6 100 mo x1 x2 (1 : Int64) (0 : Int32)).1 - (1 : Int64))) hCF gX9_runScript_X9_in rfl hd_X9_in ⟨rfl, rfl, Nat.le_of_ble_eq_true rfl, Nat.le_of_ble_eq_true rfl⟩ hG va_P_nil rfl hl.1 rfl (Nat.le_of_ble_eq_true rfl) dX9_runScript_51 ⟨Nat.le_refl _, Nat.le_refl _⟩ ?_
    refine lv_if_eq (tgt := 61) hx hb dX9_runScript_54 (by decide) (fun c_6 => ?_) (fun c_6 => ?_)
    · skip
      refine lv_iconst (v := (1 : Int32)) hx hb dX9_runScript_61 (by decide) ?_
      refine muV (A0 := A) (wc := (wMo cy a0 a1 a2 a3 a4 a5 a6 mo)) (As := [.int (1 : Int32)]) (rest := []) (c_X9_refused l D cy a0 a1 a2 a3 a4 a5 a6 mo (1 : Int32)) hCF gX9_runScript_X9_refused rfl hd_X9_refused ⟨rfl, rfl, Nat.le_of_ble_eq_true rfl, Nat.le_of_ble_eq_true rfl⟩ hG hP hD hS hA [0, 1, 2, 3, 4, 5, 6] rfl c_Mo_Mo h_Mo (ci := 7) rfl rfl g_Mo_0 rfl hl.1 rfl (Nat.le_of_ble_eq_true rfl) dX9_runScript_62 ⟨Nat.le_refl _, Nat.le_refl _⟩ (fun H locs hP hD hS => ?_)
      have hP : va_P D vwCl (wMo cy a0 a1 a2 a3 a4 a5 a6 (mR' mo (1 : Int32))) H := va_P_eq hP r_Mo_Mo
      have hD : va_D A (wMo cy a0 a1 a2 a3 a4 a5 a6 (mR' mo (1 : Int32))) := va_D_eq hD r_Mo_Mo
      refine lv_if_eq (tgt := 70) hx hb dX9_runScript_65 (by decide) (fun c => absurd c (rf_lit1 _)) (fun _ => ?_)
      refine lv_iconst (v := (0 : Int32)) hx hb dX9_runScript_68 (by decide) ?_
      exact mu_iret hx hb hr hlocks hP hS dX9_runScript_69 (by rw [m_X9_runScript, if_neg c_5, if_pos c_6]) (by rw [m_X9_runScript, if_neg c_5, if_pos c_6])
    · skip
      refine lv_iconst (v := (0 : Int32)) hx hb dX9_runScript_57 (by decide) ?_
      refine lv_goto (tgt := 62) hx hb dX9_runScript_58 (by decide) ?_
      refine muV (A0 := A) (wc := (wMo cy a0 a1 a2 a3 a4 a5 a6 mo)) (As := [.int (0 : Int32)]) (rest := []) (c_X9_refused l D cy a0 a1 a2 a3 a4 a5 a6 mo (0 : Int32)) hCF gX9_runScript_X9_refused rfl hd_X9_refused ⟨rfl, rfl, Nat.le_of_ble_eq_true rfl, Nat.le_of_ble_eq_true rfl⟩ hG hP hD hS hA [0, 1, 2, 3, 4, 5, 6] rfl c_Mo_Mo h_Mo (ci := 7) rfl rfl g_Mo_0 rfl hl.1 rfl (Nat.le_of_ble_eq_true rfl) dX9_runScript_62 ⟨Nat.le_refl _, Nat.le_refl _⟩ (fun H locs hP hD hS => ?_)
      have hP : va_P D vwCl (wMo cy a0 a1 a2 a3 a4 a5 a6 (mR' mo (0 : Int32))) H := va_P_eq hP r_Mo_Mo
      have hD : va_D A (wMo cy a0 a1 a2 a3 a4 a5 a6 (mR' mo (0 : Int32))) := va_D_eq hD r_Mo_Mo
      refine lv_if_eq (tgt := 70) hx hb dX9_runScript_65 (by decide) (fun _ => ?_) (fun c => absurd (rf_lit0 _) c)
      refine lv_aload_n hx hb dX9_runScript_70 rfl (lv_at hl 0 rfl) ?_
      refine va_get (D := D) (ci := 7) (v := .ref a2) (C := RX9) (T := TX9) (N := 11) hx hb hts in_X9 hown hG.1 hP 0 g_Mo_0 rfl 3 (by decide) k_3 (fun _ h9 => h9) rfl dX9_runScript_71 ?_
      refine lv_iconst (v := (0 : Int32)) hx hb dX9_runScript_74 (by decide) ?_
      refine lv_aload_n hx hb dX9_runScript_75 rfl (lv_at hl 0 rfl) ?_
      refine va_get (D := D) (ci := 7) (v := .ref a3) (C := RX9) (T := TX9) (N := 11) hx hb hts in_X9 hown hG.1 hP 0 g_Mo_0 rfl 4 (by decide) k_4 (fun _ h9 => h9) rfl dX9_runScript_76 ?_
      refine lv_iconst (v := (0 : Int32)) hx hb dX9_runScript_79 (by decide) ?_
      refine mvS (A0 := A) (wc := (wCp cy a2 a3 383 383 (mN mo) (mW mo))) (As := [.ref a2, .int (0 : Int32), .ref a3, .int (0 : Int32)]) (rest := []) (c_X9_copyState l D cy a2 a3 383 383 (mN mo) (mW mo) (0 : Int32) (0 : Int32) (cp_iv (iv_lit (v := 0) (by decide)) (by decide)) (cp_iv (iv_lit (v := 0) (by decide)) (by decide))) hCF gX9_runScript_X9_copyState rfl hd_X9_copyState ⟨rfl, rfl, Nat.le_of_ble_eq_true rfl, Nat.le_of_ble_eq_true rfl⟩ hG hP hD hS hA [2, 3] rfl c_Mo_Cp23 h_Cp rfl hl.1 rfl (Nat.le_of_ble_eq_true rfl) dX9_runScript_80 ⟨Nat.le_refl _, Nat.le_refl _⟩ (fun H locs hP hD hS => ?_)
      have hP : va_P D vwCl (wMo cy a0 a1 a2 a3 a4 a5 a6 (mW' (mR' mo (0 : Int32)) (m_X9_copyState (mN mo) (mW mo) (0 : Int32) (0 : Int32)))) H := va_P_eq hP r_Mo_Cp23
      have hD : va_D A (wMo cy a0 a1 a2 a3 a4 a5 a6 (mW' (mR' mo (0 : Int32)) (m_X9_copyState (mN mo) (mW mo) (0 : Int32) (0 : Int32)))) := va_D_eq hD r_Mo_Cp23
      refine lv_iconst (v := (0 : Int32)) hx hb dX9_runScript_83 (by decide) ?_
      refine lv_istore (lv' := [(6, .int (0 : Int32)), (0, .ref a0), (1, .int x1), (2, .long x2), (4, .long (m_X9_runScript_L6 100 mo x1 x2 (1 : Int64) (0 : Int32)).1)]) hx hb dX9_runScript_84 hl (by decide) rfl (fun ls hl => ?_)
      exact L_86 100 (mW' (mR' mo (0 : Int32)) (m_X9_copyState (mN mo) (mW mo) (0 : Int32) (0 : Int32))) (m_X9_runScript_L6 100 mo x1 x2 (1 : Int64) (0 : Int32)).1 (0 : Int32) (by decide) (cp_rok hM) c_5 (pw_init c_5) (pw_m c_5) (by rw [m_X9_runScript, if_neg c_5, if_neg c_6]) H locs hP hD hS ls (lv_sub hl [1, 2, 3, 4, 0] rfl)
def m_X9_simulate_L45 : Nat → MoT → Int64 → Int32 → Int64 → Int32 → Int32 × MoT
  | 0, r, _, _, _, _ => (0, r)
  | nF + 1, r, x1, x2, xx, k => if x2 ≤ k then ((((1000 : Int32) * (m_X9_usable (mW r))) + ((100 : Int32) * (m_X9_coresOwed (mW r)))) + (m_X9_partsOwed (mW r) (-1 : Int32) (-1 : Int32)), r) else m_X9_simulate_L45 nF (m_X9_turn r (((xx * (6364136223846793005 : Int64)) + (1442695040888963407 : Int64)).toUInt64 >>> ((33 : Int32).toInt64.toUInt64 &&& Int64.toUInt64 63)).toInt64.toInt32) x1 x2 ((xx * (6364136223846793005 : Int64)) + (1442695040888963407 : Int64)) (k + (1 : Int32))
def m_X9_simulate (mo : MoT) (x1 : Int64) (x2 : Int32) : Int32 × MoT := if (m_X9_in x2.toInt64 (1 : Int64) (99 : Int64)) = (0 : Int32) then ((0 : Int32), mR' mo (1 : Int32)) else m_X9_simulate_L45 1000 (mW' (mR' mo (0 : Int32)) (m_X9_copyState (mN mo) (mW mo) (0 : Int32) (0 : Int32))) x1 x2 x1 (0 : Int32)
theorem hd_X9_simulate : yX9_simulate.cls = RX9 ∧ yX9_simulate.cls ≠ "java/lang/invoke/MethodHandle" ∧ yX9_simulate.cls ≠ "java/lang/invoke/VarHandle" ∧ (parseMethodDescriptor yX9_simulate.desc).map (fun d => d.parameters.length) = some 2 := by decide +kernel
set_option maxHeartbeats 8000000 in
set_option maxRecDepth 20000 in
theorem c_X9_simulate (l : Launch) (D : va_G) (cy : Nat → ClassId) (a0 a1 a2 a3 a4 a5 a6 : Nat) (mo : MoT) (x1 : Int64) (x2 : Int32) (hM : rOK (mN mo)) : MU l D cy yX9_simulate wsX9_simulate ({ frames := 6, cells := 0, slots := 0, locals := 142 } : Room) (wMo cy a0 a1 a2 a3 a4 a5 a6 mo) (wMo cy a0 a1 a2 a3 a4 a5 a6 (m_X9_simulate mo x1 x2).2) [.ref a0, .long x1, .int x2] (m_X9_simulate mo x1 x2).1 := by
  refine MU.body (by decide) rfl (Nat.le_of_ble_eq_true rfl) ?_
  intro p e s m below meth c hx hb hml hr hts hown hlocks hP hG ls hl A hD hA hS
  have hl : lv_has ls 7 [(0, .ref a0), (1, .long x1), (3, .int x2)] := hl
  have hCF : CallFix p m c cX9_simulate 7 s ([.ref a0, .long x1, .int x2] : List Value).toArray wsX9_simulate RX9 := ⟨hx, hb, hml, hown, hts⟩
  have in_X9 : ∀ w ∈ u_ws RX9 TX9 11, w ∈ wsX9_simulate := fun _ h => List.mem_cons_of_mem _ (List.mem_append_right _ h)
  have k_0 := hts (Cond.fieldLink RX9 16 "SparePoolModel" "trial" "[I") (List.mem_of_getElem? (i := 3) rfl)
  have k_1 := hts (Cond.constantLong RX9 246 (6364136223846793005)) (List.mem_of_getElem? (i := 4) rfl)
  have k_2 := hts (Cond.constantLong RX9 248 (1442695040888963407)) (List.mem_of_getElem? (i := 5) rfl)
  have k_3 := hts (Cond.constantLong RX9 173 (99)) (List.mem_of_getElem? (i := 1) rfl)
  have k_4 := hts (Cond.fieldLink RX9 13 "SparePoolModel" "now" "[I") (List.mem_of_getElem? (i := 2) rfl)
  have hP : va_P D vwCl (wMo cy a0 a1 a2 a3 a4 a5 a6 mo) s.heap := hP
  have L_45 : ∀ (nF : Nat) (r : MoT) (xx : Int64) (k : Int32), 0 ≤ k.toInt → rOK (mW r) → ¬ m_X9_in x2.toInt64 1 99 = 0 → (x2.toInt - k.toInt).toNat < nF → m_X9_simulate_L45 nF r x1 x2 xx k = (m_X9_simulate mo x1 x2) → ∀ (H : Heap) (locs : List Loc), va_P D vwCl (wMo cy a0 a1 a2 a3 a4 a5 a6 r) H → va_D A (wMo cy a0 a1 a2 a3 a4 a5 a6 r) → va_S A s.heap H locs → ∀ ls : Array Slot, lv_has ls 7 [(0, .ref a0), (1, .long x1), (3, .int x2), (4, .long xx), (6, .int k)] → W p l e ({ frames := 6, cells := 0, slots := 0, locals := 142 } : Room) s m ([.ref a0, .long x1, .int x2] : List Value).toArray below meth c H locs 0 0 (MQ below (va_Qi (fun v_ (_ : Unit) => v_ = (m_X9_simulate mo x1 x2).1) (fun _ t => va_P D vwCl (wMo cy a0 a1 a2 a3 a4 a5 a6 (m_X9_simulate mo x1 x2).2) t.heap) A) ([.ref a0, .long x1, .int x2] : List Value).toArray s 0 0 A) (F0 m 45 ls []) := by
    intro nF
    induction nF with
    | zero => intro r xx k h0 hW hn hm; exact absurd hm (Nat.not_lt_zero _)
    | succ nF ih =>
      intro r xx k h0 hW hn hm hQ H locs hP hD hS ls hl
      refine lv_iload hx hb dX9_simulate_45 (lv_at hl 4 rfl) ?_
      refine lv_iload_n hx hb dX9_simulate_47 rfl (lv_at hl 2 rfl) ?_
      refine lv_icmp_ge (tgt := 79) hx hb dX9_simulate_48 (by decide) (fun c_1 => ?_) (fun c_1 => ?_)
      · skip
        refine lv_sipush (v := (1000 : Int32)) hx hb dX9_simulate_79 (by decide) ?_
        refine lv_aload_n hx hb dX9_simulate_82 rfl (lv_at hl 0 rfl) ?_
        refine va_get (D := D) (ci := 7) (v := .ref a3) (C := RX9) (T := TX9) (N := 11) hx hb hts in_X9 hown hG.1 hP 0 g_Mo_0 rfl 4 (by decide) k_0 (fun _ h9 => h9) rfl dX9_simulate_83 ?_
        refine roS (wc := (wAr cy a3 (mW r))) (As := [.ref a3]) (rest := [.int (1000 : Int32)]) (c_X9_usable l D cy a3 (mW r) hW) hCF gX9_simulate_X9_usable rfl hd_X9_usable ⟨rfl, rfl, Nat.le_of_ble_eq_true rfl, Nat.le_of_ble_eq_true rfl⟩ hG (hP.sub (ws' := (wAr cy a3 (mW r))) [3] u_Mo_Ar3) rfl hl.1 rfl (Nat.le_of_ble_eq_true rfl) dX9_simulate_86 ⟨Nat.le_refl _, Nat.le_refl _⟩ ?_
        refine lv_imul hx hb dX9_simulate_89 ?_
        refine lv_bipush (v := (100 : Int32)) hx hb dX9_simulate_90 (by decide) ?_
        refine lv_aload_n hx hb dX9_simulate_92 rfl (lv_at hl 0 rfl) ?_
        refine va_get (D := D) (ci := 7) (v := .ref a3) (C := RX9) (T := TX9) (N := 11) hx hb hts in_X9 hown hG.1 hP 0 g_Mo_0 rfl 4 (by decide) k_0 (fun _ h9 => h9) rfl dX9_simulate_93 ?_
        refine roS (wc := (wAr cy a3 (mW r))) (As := [.ref a3]) (rest := [.int (100 : Int32), .int ((1000 : Int32) * (m_X9_usable (mW r)))]) (c_X9_coresOwed l D cy a3 (mW r)) hCF gX9_simulate_X9_coresOwed rfl hd_X9_coresOwed ⟨rfl, rfl, Nat.le_of_ble_eq_true rfl, Nat.le_of_ble_eq_true rfl⟩ hG (hP.sub (ws' := (wAr cy a3 (mW r))) [3] u_Mo_Ar3) rfl hl.1 rfl (Nat.le_of_ble_eq_true rfl) dX9_simulate_96 ⟨Nat.le_refl _, Nat.le_refl _⟩ ?_
        refine lv_imul hx hb dX9_simulate_99 ?_
        refine lv_iadd hx hb dX9_simulate_100 ?_
        refine lv_aload_n hx hb dX9_simulate_101 rfl (lv_at hl 0 rfl) ?_
        refine va_get (D := D) (ci := 7) (v := .ref a3) (C := RX9) (T := TX9) (N := 11) hx hb hts in_X9 hown hG.1 hP 0 g_Mo_0 rfl 4 (by decide) k_0 (fun _ h9 => h9) rfl dX9_simulate_102 ?_
        refine lv_iconst (v := (-1 : Int32)) hx hb dX9_simulate_105 (by decide) ?_
        refine lv_iconst (v := (-1 : Int32)) hx hb dX9_simulate_106 (by decide) ?_
        refine roS (wc := (wAr cy a3 (mW r))) (As := [.ref a3, .int (-1 : Int32), .int (-1 : Int32)]) (rest := [.int (((1000 : Int32) * (m_X9_usable (mW r))) + ((100 : Int32) * (m_X9_coresOwed (mW r))))]) (c_X9_partsOwed l D cy a3 (mW r) (-1 : Int32) (-1 : Int32)) hCF gX9_simulate_X9_partsOwed rfl hd_X9_partsOwed ⟨rfl, rfl, Nat.le_of_ble_eq_true rfl, Nat.le_of_ble_eq_true rfl⟩ hG (hP.sub (ws' := (wAr cy a3 (mW r))) [3] u_Mo_Ar3) rfl hl.1 rfl (Nat.le_of_ble_eq_true rfl) dX9_simulate_107 ⟨Nat.le_refl _, Nat.le_refl _⟩ ?_
        refine lv_iadd hx hb dX9_simulate_110 ?_
        exact mu_iret hx hb hr hlocks hP hS dX9_simulate_111 (by rw [← hQ, m_X9_simulate_L45, if_pos c_1]) (by rw [← hQ, m_X9_simulate_L45, if_pos c_1])
      · skip
        refine lv_lload hx hb dX9_simulate_51 (lv_at hl 3 rfl) ?_
        refine lv_ldc2 (v := (6364136223846793005 : Int64)) hx hb hown k_1 dX9_simulate_53 ?_
        refine lv_lmul hx hb dX9_simulate_56 ?_
        refine lv_ldc2 (v := (1442695040888963407 : Int64)) hx hb hown k_2 dX9_simulate_57 ?_
        refine lv_ladd hx hb dX9_simulate_60 ?_
        refine lv_lstore (lv' := [(4, .long ((xx * (6364136223846793005 : Int64)) + (1442695040888963407 : Int64))), (0, .ref a0), (1, .long x1), (3, .int x2), (6, .int k)]) hx hb dX9_simulate_61 hl (by decide) rfl (fun ls hl => ?_)
        refine lv_aload_n hx hb dX9_simulate_63 rfl (lv_at hl 1 rfl) ?_
        refine lv_lload hx hb dX9_simulate_64 (lv_at hl 0 rfl) ?_
        refine lv_bipush (v := (33 : Int32)) hx hb dX9_simulate_66 (by decide) ?_
        refine lv_lushr hx hb dX9_simulate_68 rfl ?_
        refine lv_l2i hx hb dX9_simulate_69 rfl ?_
        refine mvV (A0 := A) (wc := (wMo cy a0 a1 a2 a3 a4 a5 a6 r)) (As := [.int (((xx * (6364136223846793005 : Int64)) + (1442695040888963407 : Int64)).toUInt64 >>> ((33 : Int32).toInt64.toUInt64 &&& Int64.toUInt64 63)).toInt64.toInt32]) (rest := []) (c_X9_turn l D cy a0 a1 a2 a3 a4 a5 a6 r (((xx * (6364136223846793005 : Int64)) + (1442695040888963407 : Int64)).toUInt64 >>> ((33 : Int32).toInt64.toUInt64 &&& Int64.toUInt64 63)).toInt64.toInt32 hW) hCF gX9_simulate_X9_turn rfl hd_X9_turn ⟨rfl, rfl, Nat.le_of_ble_eq_true rfl, Nat.le_of_ble_eq_true rfl⟩ hG hP hD hS hA [0, 1, 2, 3, 4, 5, 6] rfl c_Mo_Mo h_Mo (ci := 7) rfl rfl g_Mo_0 rfl hl.1 rfl (Nat.le_of_ble_eq_true rfl) dX9_simulate_70 ⟨Nat.le_refl _, Nat.le_refl _⟩ (fun H locs hP hD hS => ?_)
        have hP : va_P D vwCl (wMo cy a0 a1 a2 a3 a4 a5 a6 (m_X9_turn r (((xx * (6364136223846793005 : Int64)) + (1442695040888963407 : Int64)).toUInt64 >>> ((33 : Int32).toInt64.toUInt64 &&& Int64.toUInt64 63)).toInt64.toInt32)) H := va_P_eq hP r_Mo_Mo
        have hD : va_D A (wMo cy a0 a1 a2 a3 a4 a5 a6 (m_X9_turn r (((xx * (6364136223846793005 : Int64)) + (1442695040888963407 : Int64)).toUInt64 >>> ((33 : Int32).toInt64.toUInt64 &&& Int64.toUInt64 63)).toInt64.toInt32)) := va_D_eq hD r_Mo_Mo
        refine lv_iinc (v := (k + (1 : Int32))) (lv' := [(6, .int (k + (1 : Int32))), (4, .long ((xx * (6364136223846793005 : Int64)) + (1442695040888963407 : Int64))), (0, .ref a0), (1, .long x1), (3, .int x2)]) hx hb dX9_simulate_73 hl (k := 4) rfl rfl (by decide) rfl (fun ls hl => ?_)
        refine lv_goto (tgt := 45) hx hb dX9_simulate_76 (by decide) ?_
        exact ih  (m_X9_turn r (((xx * (6364136223846793005 : Int64)) + (1442695040888963407 : Int64)).toUInt64 >>> ((33 : Int32).toInt64.toUInt64 &&& Int64.toUInt64 63)).toInt64.toInt32) ((xx * (6364136223846793005 : Int64)) + (1442695040888963407 : Int64)) (k + (1 : Int32)) (lp_up h0 c_1) (rok_turn hW) hn (lp_dec h0 c_1 hm) (by rw [← hQ, m_X9_simulate_L45, if_neg c_1]) H locs hP hD hS ls (lv_sub hl [2, 3, 4, 1, 0] rfl)
  refine lv_aload_n hx hb dX9_simulate_0 rfl (lv_at hl 0 rfl) ?_
  refine lv_iload_n hx hb dX9_simulate_1 rfl (lv_at hl 2 rfl) ?_
  refine lv_i2l hx hb dX9_simulate_2 rfl ?_
  refine lv_lconst (v := (1 : Int64)) hx hb dX9_simulate_3 (by decide) ?_
  refine lv_ldc2 (v := (99 : Int64)) hx hb hown k_3 dX9_simulate_4 ?_
  refine roS (wc := ([] : va_W)) (As := [.long x2.toInt64, .long (1 : Int64), .long (99 : Int64)]) (rest := [.ref a0]) (c_X9_in l D cy x2.toInt64 (1 : Int64) (99 : Int64)) hCF gX9_simulate_X9_in rfl hd_X9_in ⟨rfl, rfl, Nat.le_of_ble_eq_true rfl, Nat.le_of_ble_eq_true rfl⟩ hG va_P_nil rfl hl.1 rfl (Nat.le_of_ble_eq_true rfl) dX9_simulate_7 ⟨Nat.le_refl _, Nat.le_refl _⟩ ?_
  refine lv_if_eq (tgt := 17) hx hb dX9_simulate_10 (by decide) (fun c_2 => ?_) (fun c_2 => ?_)
  · skip
    refine lv_iconst (v := (1 : Int32)) hx hb dX9_simulate_17 (by decide) ?_
    refine muV (A0 := A) (wc := (wMo cy a0 a1 a2 a3 a4 a5 a6 mo)) (As := [.int (1 : Int32)]) (rest := []) (c_X9_refused l D cy a0 a1 a2 a3 a4 a5 a6 mo (1 : Int32)) hCF gX9_simulate_X9_refused rfl hd_X9_refused ⟨rfl, rfl, Nat.le_of_ble_eq_true rfl, Nat.le_of_ble_eq_true rfl⟩ hG hP hD hS hA [0, 1, 2, 3, 4, 5, 6] rfl c_Mo_Mo h_Mo (ci := 7) rfl rfl g_Mo_0 rfl hl.1 rfl (Nat.le_of_ble_eq_true rfl) dX9_simulate_18 ⟨Nat.le_refl _, Nat.le_refl _⟩ (fun H locs hP hD hS => ?_)
    have hP : va_P D vwCl (wMo cy a0 a1 a2 a3 a4 a5 a6 (mR' mo (1 : Int32))) H := va_P_eq hP r_Mo_Mo
    have hD : va_D A (wMo cy a0 a1 a2 a3 a4 a5 a6 (mR' mo (1 : Int32))) := va_D_eq hD r_Mo_Mo
    refine lv_if_eq (tgt := 26) hx hb dX9_simulate_21 (by decide) (fun c => absurd c (rf_lit1 _)) (fun _ => ?_)
    refine lv_iconst (v := (0 : Int32)) hx hb dX9_simulate_24 (by decide) ?_
    exact mu_iret hx hb hr hlocks hP hS dX9_simulate_25 (by rw [m_X9_simulate, if_pos c_2]) (by rw [m_X9_simulate, if_pos c_2])
  · skip
    refine lv_iconst (v := (0 : Int32)) hx hb dX9_simulate_13 (by decide) ?_
    refine lv_goto (tgt := 18) hx hb dX9_simulate_14 (by decide) ?_
    refine muV (A0 := A) (wc := (wMo cy a0 a1 a2 a3 a4 a5 a6 mo)) (As := [.int (0 : Int32)]) (rest := []) (c_X9_refused l D cy a0 a1 a2 a3 a4 a5 a6 mo (0 : Int32)) hCF gX9_simulate_X9_refused rfl hd_X9_refused ⟨rfl, rfl, Nat.le_of_ble_eq_true rfl, Nat.le_of_ble_eq_true rfl⟩ hG hP hD hS hA [0, 1, 2, 3, 4, 5, 6] rfl c_Mo_Mo h_Mo (ci := 7) rfl rfl g_Mo_0 rfl hl.1 rfl (Nat.le_of_ble_eq_true rfl) dX9_simulate_18 ⟨Nat.le_refl _, Nat.le_refl _⟩ (fun H locs hP hD hS => ?_)
    have hP : va_P D vwCl (wMo cy a0 a1 a2 a3 a4 a5 a6 (mR' mo (0 : Int32))) H := va_P_eq hP r_Mo_Mo
    have hD : va_D A (wMo cy a0 a1 a2 a3 a4 a5 a6 (mR' mo (0 : Int32))) := va_D_eq hD r_Mo_Mo
    refine lv_if_eq (tgt := 26) hx hb dX9_simulate_21 (by decide) (fun _ => ?_) (fun c => absurd (rf_lit0 _) c)
    refine lv_aload_n hx hb dX9_simulate_26 rfl (lv_at hl 0 rfl) ?_
    refine va_get (D := D) (ci := 7) (v := .ref a2) (C := RX9) (T := TX9) (N := 11) hx hb hts in_X9 hown hG.1 hP 0 g_Mo_0 rfl 3 (by decide) k_4 (fun _ h9 => h9) rfl dX9_simulate_27 ?_
    refine lv_iconst (v := (0 : Int32)) hx hb dX9_simulate_30 (by decide) ?_
    refine lv_aload_n hx hb dX9_simulate_31 rfl (lv_at hl 0 rfl) ?_
    refine va_get (D := D) (ci := 7) (v := .ref a3) (C := RX9) (T := TX9) (N := 11) hx hb hts in_X9 hown hG.1 hP 0 g_Mo_0 rfl 4 (by decide) k_0 (fun _ h9 => h9) rfl dX9_simulate_32 ?_
    refine lv_iconst (v := (0 : Int32)) hx hb dX9_simulate_35 (by decide) ?_
    refine mvS (A0 := A) (wc := (wCp cy a2 a3 383 383 (mN mo) (mW mo))) (As := [.ref a2, .int (0 : Int32), .ref a3, .int (0 : Int32)]) (rest := []) (c_X9_copyState l D cy a2 a3 383 383 (mN mo) (mW mo) (0 : Int32) (0 : Int32) (cp_iv (iv_lit (v := 0) (by decide)) (by decide)) (cp_iv (iv_lit (v := 0) (by decide)) (by decide))) hCF gX9_simulate_X9_copyState rfl hd_X9_copyState ⟨rfl, rfl, Nat.le_of_ble_eq_true rfl, Nat.le_of_ble_eq_true rfl⟩ hG hP hD hS hA [2, 3] rfl c_Mo_Cp23 h_Cp rfl hl.1 rfl (Nat.le_of_ble_eq_true rfl) dX9_simulate_36 ⟨Nat.le_refl _, Nat.le_refl _⟩ (fun H locs hP hD hS => ?_)
    have hP : va_P D vwCl (wMo cy a0 a1 a2 a3 a4 a5 a6 (mW' (mR' mo (0 : Int32)) (m_X9_copyState (mN mo) (mW mo) (0 : Int32) (0 : Int32)))) H := va_P_eq hP r_Mo_Cp23
    have hD : va_D A (wMo cy a0 a1 a2 a3 a4 a5 a6 (mW' (mR' mo (0 : Int32)) (m_X9_copyState (mN mo) (mW mo) (0 : Int32) (0 : Int32)))) := va_D_eq hD r_Mo_Cp23
    refine lv_lload_n hx hb dX9_simulate_39 rfl (lv_at hl 1 rfl) ?_
    refine lv_lstore (lv' := [(4, .long x1), (0, .ref a0), (1, .long x1), (3, .int x2)]) hx hb dX9_simulate_40 hl (by decide) rfl (fun ls hl => ?_)
    refine lv_iconst (v := (0 : Int32)) hx hb dX9_simulate_42 (by decide) ?_
    refine lv_istore (lv' := [(6, .int (0 : Int32)), (4, .long x1), (0, .ref a0), (1, .long x1), (3, .int x2)]) hx hb dX9_simulate_43 hl (by decide) rfl (fun ls hl => ?_)
    exact L_45 1000 (mW' (mR' mo (0 : Int32)) (m_X9_copyState (mN mo) (mW mo) (0 : Int32) (0 : Int32))) x1 (0 : Int32) (by decide) (cp_rok hM) c_2 (si_m c_2) (by rw [m_X9_simulate, if_neg c_2]) H locs hP hD hS ls (lv_sub hl [2, 3, 4, 1, 0] rfl)
