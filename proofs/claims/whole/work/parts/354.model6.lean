def m_X9_readCommand_L304 (mo : MoT) (rr : MoT) (a : Int32) (b : Int32) (c_ : Int32) : Int32 × MoT := if a = (-1 : Int32) then ((0 : Int32), rr) else if b = (-1 : Int32) then ((0 : Int32), rr) else if c_ = (-1 : Int32) then ((0 : Int32), rr) else if (m_X9_does (mW rr) ((mT mo) (mP mo).toNatClampNeg) a b c_).1 = (0 : Int32) then ((1 : Int32), mO' (mW' rr (m_X9_does (mW rr) ((mT mo) (mP mo).toNatClampNeg) a b c_).2) ((mO rr) + (1 : Int32))) else ((1 : Int32), mO' (mW' rr (m_X9_does (mW rr) ((mT mo) (mP mo).toNatClampNeg) a b c_).2) ((mO rr) + (0 : Int32)))
def m_X9_readCommand (mo : MoT) : Int32 × MoT := if ((mT mo) (mP mo).toNatClampNeg) = (100 : Int32) then m_X9_readCommand_L304 mo (m_X9_number (mP' mo ((mP mo) + (1 : Int32))) (1 : Int32) (1 : Int32) (9 : Int32)).2 (m_X9_number (mP' mo ((mP mo) + (1 : Int32))) (1 : Int32) (1 : Int32) (9 : Int32)).1 (0 : Int32) (0 : Int32) else if ((mT mo) (mP mo).toNatClampNeg) = (108 : Int32) then if (m_X9_number (mP' mo ((mP mo) + (1 : Int32))) (2 : Int32) (0 : Int32) (15 : Int32)).1 = (-1 : Int32) then m_X9_readCommand_L304 mo (m_X9_number (mP' mo ((mP mo) + (1 : Int32))) (2 : Int32) (0 : Int32) (15 : Int32)).2 (m_X9_number (mP' mo ((mP mo) + (1 : Int32))) (2 : Int32) (0 : Int32) (15 : Int32)).1 (-1 : Int32) (-1 : Int32) else if (m_X9_number (m_X9_number (mP' mo ((mP mo) + (1 : Int32))) (2 : Int32) (0 : Int32) (15 : Int32)).2 (1 : Int32) (0 : Int32) (4 : Int32)).1 = (-1 : Int32) then m_X9_readCommand_L304 mo (m_X9_number (m_X9_number (mP' mo ((mP mo) + (1 : Int32))) (2 : Int32) (0 : Int32) (15 : Int32)).2 (1 : Int32) (0 : Int32) (4 : Int32)).2 (m_X9_number (mP' mo ((mP mo) + (1 : Int32))) (2 : Int32) (0 : Int32) (15 : Int32)).1 (m_X9_number (m_X9_number (mP' mo ((mP mo) + (1 : Int32))) (2 : Int32) (0 : Int32) (15 : Int32)).2 (1 : Int32) (0 : Int32) (4 : Int32)).1 (-1 : Int32) else m_X9_readCommand_L304 mo (m_X9_number (m_X9_number (m_X9_number (mP' mo ((mP mo) + (1 : Int32))) (2 : Int32) (0 : Int32) (15 : Int32)).2 (1 : Int32) (0 : Int32) (4 : Int32)).2 (2 : Int32) (1 : Int32) (30 : Int32)).2 (m_X9_number (mP' mo ((mP mo) + (1 : Int32))) (2 : Int32) (0 : Int32) (15 : Int32)).1 (m_X9_number (m_X9_number (mP' mo ((mP mo) + (1 : Int32))) (2 : Int32) (0 : Int32) (15 : Int32)).2 (1 : Int32) (0 : Int32) (4 : Int32)).1 (m_X9_number (m_X9_number (m_X9_number (mP' mo ((mP mo) + (1 : Int32))) (2 : Int32) (0 : Int32) (15 : Int32)).2 (1 : Int32) (0 : Int32) (4 : Int32)).2 (2 : Int32) (1 : Int32) (30 : Int32)).1 else if ((mT mo) (mP mo).toNatClampNeg) = (110 : Int32) then if (m_X9_number (mP' mo ((mP mo) + (1 : Int32))) (1 : Int32) (0 : Int32) (2 : Int32)).1 = (-1 : Int32) then m_X9_readCommand_L304 mo (m_X9_number (mP' mo ((mP mo) + (1 : Int32))) (1 : Int32) (0 : Int32) (2 : Int32)).2 (m_X9_number (mP' mo ((mP mo) + (1 : Int32))) (1 : Int32) (0 : Int32) (2 : Int32)).1 (-1 : Int32) (-1 : Int32) else if (m_X9_number (m_X9_number (mP' mo ((mP mo) + (1 : Int32))) (1 : Int32) (0 : Int32) (2 : Int32)).2 (1 : Int32) (0 : Int32) (4 : Int32)).1 = (-1 : Int32) then m_X9_readCommand_L304 mo (m_X9_number (m_X9_number (mP' mo ((mP mo) + (1 : Int32))) (1 : Int32) (0 : Int32) (2 : Int32)).2 (1 : Int32) (0 : Int32) (4 : Int32)).2 (m_X9_number (mP' mo ((mP mo) + (1 : Int32))) (1 : Int32) (0 : Int32) (2 : Int32)).1 (m_X9_number (m_X9_number (mP' mo ((mP mo) + (1 : Int32))) (1 : Int32) (0 : Int32) (2 : Int32)).2 (1 : Int32) (0 : Int32) (4 : Int32)).1 (-1 : Int32) else m_X9_readCommand_L304 mo (m_X9_number (m_X9_number (m_X9_number (mP' mo ((mP mo) + (1 : Int32))) (1 : Int32) (0 : Int32) (2 : Int32)).2 (1 : Int32) (0 : Int32) (4 : Int32)).2 (1 : Int32) (0 : Int32) (7 : Int32)).2 (m_X9_number (mP' mo ((mP mo) + (1 : Int32))) (1 : Int32) (0 : Int32) (2 : Int32)).1 (m_X9_number (m_X9_number (mP' mo ((mP mo) + (1 : Int32))) (1 : Int32) (0 : Int32) (2 : Int32)).2 (1 : Int32) (0 : Int32) (4 : Int32)).1 (m_X9_number (m_X9_number (m_X9_number (mP' mo ((mP mo) + (1 : Int32))) (1 : Int32) (0 : Int32) (2 : Int32)).2 (1 : Int32) (0 : Int32) (4 : Int32)).2 (1 : Int32) (0 : Int32) (7 : Int32)).1 else if ((mT mo) (mP mo).toNatClampNeg) = (114 : Int32) then m_X9_readCommand_L304 mo (m_X9_number (mP' mo ((mP mo) + (1 : Int32))) (2 : Int32) (0 : Int32) (15 : Int32)).2 (m_X9_number (mP' mo ((mP mo) + (1 : Int32))) (2 : Int32) (0 : Int32) (15 : Int32)).1 (0 : Int32) (0 : Int32) else if ((mT mo) (mP mo).toNatClampNeg) = (116 : Int32) then if (m_X9_number (mP' mo ((mP mo) + (1 : Int32))) (2 : Int32) (0 : Int32) (15 : Int32)).1 = (-1 : Int32) then m_X9_readCommand_L304 mo (m_X9_number (mP' mo ((mP mo) + (1 : Int32))) (2 : Int32) (0 : Int32) (15 : Int32)).2 (m_X9_number (mP' mo ((mP mo) + (1 : Int32))) (2 : Int32) (0 : Int32) (15 : Int32)).1 (-1 : Int32) (-1 : Int32) else if (m_X9_number (m_X9_number (mP' mo ((mP mo) + (1 : Int32))) (2 : Int32) (0 : Int32) (15 : Int32)).2 (2 : Int32) (0 : Int32) (15 : Int32)).1 = (-1 : Int32) then m_X9_readCommand_L304 mo (m_X9_number (m_X9_number (mP' mo ((mP mo) + (1 : Int32))) (2 : Int32) (0 : Int32) (15 : Int32)).2 (2 : Int32) (0 : Int32) (15 : Int32)).2 (m_X9_number (mP' mo ((mP mo) + (1 : Int32))) (2 : Int32) (0 : Int32) (15 : Int32)).1 (m_X9_number (m_X9_number (mP' mo ((mP mo) + (1 : Int32))) (2 : Int32) (0 : Int32) (15 : Int32)).2 (2 : Int32) (0 : Int32) (15 : Int32)).1 (-1 : Int32) else m_X9_readCommand_L304 mo (m_X9_number (m_X9_number (m_X9_number (mP' mo ((mP mo) + (1 : Int32))) (2 : Int32) (0 : Int32) (15 : Int32)).2 (2 : Int32) (0 : Int32) (15 : Int32)).2 (1 : Int32) (0 : Int32) (2 : Int32)).2 (m_X9_number (mP' mo ((mP mo) + (1 : Int32))) (2 : Int32) (0 : Int32) (15 : Int32)).1 (m_X9_number (m_X9_number (mP' mo ((mP mo) + (1 : Int32))) (2 : Int32) (0 : Int32) (15 : Int32)).2 (2 : Int32) (0 : Int32) (15 : Int32)).1 (m_X9_number (m_X9_number (m_X9_number (mP' mo ((mP mo) + (1 : Int32))) (2 : Int32) (0 : Int32) (15 : Int32)).2 (2 : Int32) (0 : Int32) (15 : Int32)).2 (1 : Int32) (0 : Int32) (2 : Int32)).1 else if ((mT mo) (mP mo).toNatClampNeg) = (120 : Int32) then if (m_X9_number (mP' mo ((mP mo) + (1 : Int32))) (2 : Int32) (0 : Int32) (15 : Int32)).1 = (-1 : Int32) then m_X9_readCommand_L304 mo (m_X9_number (mP' mo ((mP mo) + (1 : Int32))) (2 : Int32) (0 : Int32) (15 : Int32)).2 (m_X9_number (mP' mo ((mP mo) + (1 : Int32))) (2 : Int32) (0 : Int32) (15 : Int32)).1 (-1 : Int32) (0 : Int32) else m_X9_readCommand_L304 mo (m_X9_number (m_X9_number (mP' mo ((mP mo) + (1 : Int32))) (2 : Int32) (0 : Int32) (15 : Int32)).2 (2 : Int32) (0 : Int32) (15 : Int32)).2 (m_X9_number (mP' mo ((mP mo) + (1 : Int32))) (2 : Int32) (0 : Int32) (15 : Int32)).1 (m_X9_number (m_X9_number (mP' mo ((mP mo) + (1 : Int32))) (2 : Int32) (0 : Int32) (15 : Int32)).2 (2 : Int32) (0 : Int32) (15 : Int32)).1 (0 : Int32) else ((0 : Int32), mP' mo (((mP mo) + (1 : Int32)) - (1 : Int32)))
theorem hd_X9_readCommand : yX9_readCommand.cls = RX9 ∧ yX9_readCommand.cls ≠ "java/lang/invoke/MethodHandle" ∧ yX9_readCommand.cls ≠ "java/lang/invoke/VarHandle" ∧ (parseMethodDescriptor yX9_readCommand.desc).map (fun d => d.parameters.length) = some 1 := by decide +kernel
set_option maxHeartbeats 8000000 in
set_option maxRecDepth 20000 in
theorem c_X9_readCommand (l : Launch) (D : va_G) (cy : Nat → ClassId) (a0 a1 a2 a3 a4 a5 a6 : Nat) (mo : MoT) (hT : txtOK mo) (hs : ¬ mZ mo ≤ mP mo) (hW : rOK (mW mo)) : MU l D cy yX9_readCommand wsX9_readCommand ({ frames := 5, cells := 0, slots := 0, locals := 115 } : Room) (wMo cy a0 a1 a2 a3 a4 a5 a6 mo) (wMo cy a0 a1 a2 a3 a4 a5 a6 (m_X9_readCommand mo).2) [.ref a0, .ref a3] (m_X9_readCommand mo).1 := by
  refine MU.body (by decide) rfl (Nat.le_of_ble_eq_true rfl) ?_
  intro p e s m below meth c hx hb hml hr hts hown hlocks hP hG ls hl A hD hA hS
  have hl : lv_has ls 6 [(0, .ref a0), (1, .ref a3)] := hl
  have hCF : CallFix p m c cX9_readCommand 6 s ([.ref a0, .ref a3] : List Value).toArray wsX9_readCommand RX9 := ⟨hx, hb, hml, hown, hts⟩
  have in_X9 : ∀ w ∈ u_ws RX9 TX9 11, w ∈ wsX9_readCommand := fun _ h => List.mem_cons_of_mem _ (List.mem_append_right _ h)
  have k_0 := hts (Cond.fieldLink RX9 182 "SparePoolModel" "out" "I") (List.mem_of_getElem? (i := 3) rfl)
  have k_1 := hts (Cond.fieldLink RX9 7 "SparePoolModel" "text" "[I") (List.mem_of_getElem? (i := 1) rfl)
  have k_2 := hts (Cond.fieldLink RX9 119 "SparePoolModel" "spot" "I") (List.mem_of_getElem? (i := 2) rfl)
  have hP : va_P D vwCl (wMo cy a0 a1 a2 a3 a4 a5 a6 mo) s.heap := hP
  have L_304 : ∀ (rr : MoT) (a : Int32) (b : Int32) (c_ : Int32), txtOK rr → rOK (mW rr) → m_X9_readCommand_L304 mo rr a b c_ = (m_X9_readCommand mo) → ∀ (H : Heap) (locs : List Loc), va_P D vwCl (wMo cy a0 a1 a2 a3 a4 a5 a6 rr) H → va_D A (wMo cy a0 a1 a2 a3 a4 a5 a6 rr) → va_S A s.heap H locs → ∀ ls : Array Slot, lv_has ls 6 [(0, .ref a0), (1, .ref a3), (2, .int ((mT mo) (mP mo).toNatClampNeg)), (3, .int a), (4, .int b), (5, .int c_)] → W p l e ({ frames := 5, cells := 0, slots := 0, locals := 115 } : Room) s m ([.ref a0, .ref a3] : List Value).toArray below meth c H locs 0 0 (MQ below (va_Qi (fun v_ (_ : Unit) => v_ = (m_X9_readCommand mo).1) (fun _ t => va_P D vwCl (wMo cy a0 a1 a2 a3 a4 a5 a6 (m_X9_readCommand mo).2) t.heap) A) ([.ref a0, .ref a3] : List Value).toArray s 0 0 A) (F0 m 304 ls []) := by
    intro rr a b c_ hTR hWR hQ H locs hP hD hS ls hl
    refine lv_iload_n hx hb dX9_readCommand_304 rfl (lv_at hl 3 rfl) ?_
    refine lv_iconst (v := (-1 : Int32)) hx hb dX9_readCommand_305 (by decide) ?_
    refine lv_icmp_eq (tgt := 321) hx hb dX9_readCommand_306 (by decide) (fun c_1 => ?_) (fun c_1 => ?_)
    · skip
      refine lv_iconst (v := (0 : Int32)) hx hb dX9_readCommand_321 (by decide) ?_
      exact mu_zret hx hb hr hlocks rfl hP hS dX9_readCommand_322 (by rw [← hQ, m_X9_readCommand_L304, if_pos c_1]) (by rw [← hQ, m_X9_readCommand_L304, if_pos c_1])
    · skip
      refine lv_iload hx hb dX9_readCommand_309 (lv_at hl 4 rfl) ?_
      refine lv_iconst (v := (-1 : Int32)) hx hb dX9_readCommand_311 (by decide) ?_
      refine lv_icmp_eq (tgt := 321) hx hb dX9_readCommand_312 (by decide) (fun c_2 => ?_) (fun c_2 => ?_)
      · skip
        refine lv_iconst (v := (0 : Int32)) hx hb dX9_readCommand_321 (by decide) ?_
        exact mu_zret hx hb hr hlocks rfl hP hS dX9_readCommand_322 (by rw [← hQ, m_X9_readCommand_L304, if_neg c_1, if_pos c_2]) (by rw [← hQ, m_X9_readCommand_L304, if_neg c_1, if_pos c_2])
      · skip
        refine lv_iload hx hb dX9_readCommand_315 (lv_at hl 5 rfl) ?_
        refine lv_iconst (v := (-1 : Int32)) hx hb dX9_readCommand_317 (by decide) ?_
        refine lv_icmp_ne (tgt := 323) hx hb dX9_readCommand_318 (by decide) (fun c_3 => ?_) (fun c_3 => ?_)
        · skip
          refine lv_aload_n hx hb dX9_readCommand_323 rfl (lv_at hl 0 rfl) ?_
          refine lv_dup hx hb dX9_readCommand_324 rfl ?_
          refine va_get (D := D) (ci := 7) (v := .int (mO rr)) (C := RX9) (T := TX9) (N := 11) hx hb hts in_X9 hown hG.1 hP 0 g_Mo_0 rfl 10 (by decide) k_0 (fun _ h9 => h9) rfl dX9_readCommand_325 ?_
          refine lv_aload_n hx hb dX9_readCommand_328 rfl (lv_at hl 1 rfl) ?_
          refine lv_iload_n hx hb dX9_readCommand_329 rfl (lv_at hl 2 rfl) ?_
          refine lv_iload_n hx hb dX9_readCommand_330 rfl (lv_at hl 3 rfl) ?_
          refine lv_iload hx hb dX9_readCommand_331 (lv_at hl 4 rfl) ?_
          refine lv_iload hx hb dX9_readCommand_333 (lv_at hl 5 rfl) ?_
          refine muS (A0 := A) (wc := (wAr cy a3 (mW rr))) (As := [.ref a3, .int ((mT mo) (mP mo).toNatClampNeg), .int a, .int b, .int c_]) (rest := [.int (mO rr), .ref a0]) (c_X9_does l D cy a3 (mW rr) ((mT mo) (mP mo).toNatClampNeg) a b c_ hWR) hCF gX9_readCommand_X9_does rfl hd_X9_does ⟨rfl, rfl, Nat.le_of_ble_eq_true rfl, Nat.le_of_ble_eq_true rfl⟩ hG hP hD hS hA [3] rfl c_Mo_Ar3 h_Ar rfl hl.1 rfl (Nat.le_of_ble_eq_true rfl) dX9_readCommand_335 ⟨Nat.le_refl _, Nat.le_refl _⟩ (fun H locs hP hD hS => ?_)
          have hP : va_P D vwCl (wMo cy a0 a1 a2 a3 a4 a5 a6 (mW' rr (m_X9_does (mW rr) ((mT mo) (mP mo).toNatClampNeg) a b c_).2)) H := va_P_eq hP r_Mo_Ar3
          have hD : va_D A (wMo cy a0 a1 a2 a3 a4 a5 a6 (mW' rr (m_X9_does (mW rr) ((mT mo) (mP mo).toNatClampNeg) a b c_).2)) := va_D_eq hD r_Mo_Ar3
          refine lv_if_eq (tgt := 345) hx hb dX9_readCommand_338 (by decide) (fun c_4 => ?_) (fun c_4 => ?_)
          · skip
            refine lv_iconst (v := (1 : Int32)) hx hb dX9_readCommand_345 (by decide) ?_
            refine lv_iadd hx hb dX9_readCommand_346 ?_
            refine va_put (D := D) (ci := 7) (v := .int ((mO rr) + (1 : Int32))) (ty := .int) (C := RX9) (T := TX9) (N := 11) hx hb hts in_X9 tyX9 tyX9_ok nmX9 hown hG.1 hP hD hS 0 g_Mo_0 rfl 10 (by decide) k_0 (fun _ h9 => h9) rfl (by decide +kernel) rfl rfl (Nat.le_of_ble_eq_true rfl) dX9_readCommand_347 (fun H locs hP hD hS => ?_)
            have hP : va_P D vwCl (wMo cy a0 a1 a2 a3 a4 a5 a6 (mO' (mW' rr (m_X9_does (mW rr) ((mT mo) (mP mo).toNatClampNeg) a b c_).2) ((mO rr) + (1 : Int32)))) H := va_P_eq hP s_Mo_0_10
            have hD : va_D A (wMo cy a0 a1 a2 a3 a4 a5 a6 (mO' (mW' rr (m_X9_does (mW rr) ((mT mo) (mP mo).toNatClampNeg) a b c_).2) ((mO rr) + (1 : Int32)))) := va_D_eq hD s_Mo_0_10
            refine lv_iconst (v := (1 : Int32)) hx hb dX9_readCommand_350 (by decide) ?_
            exact mu_zret hx hb hr hlocks rfl hP hS dX9_readCommand_351 (by rw [← hQ, m_X9_readCommand_L304, if_neg c_1, if_neg c_2, if_neg c_3, if_pos c_4]) (by rw [← hQ, m_X9_readCommand_L304, if_neg c_1, if_neg c_2, if_neg c_3, if_pos c_4])
          · skip
            refine lv_iconst (v := (0 : Int32)) hx hb dX9_readCommand_341 (by decide) ?_
            refine lv_goto (tgt := 346) hx hb dX9_readCommand_342 (by decide) ?_
            refine lv_iadd hx hb dX9_readCommand_346 ?_
            refine va_put (D := D) (ci := 7) (v := .int ((mO rr) + (0 : Int32))) (ty := .int) (C := RX9) (T := TX9) (N := 11) hx hb hts in_X9 tyX9 tyX9_ok nmX9 hown hG.1 hP hD hS 0 g_Mo_0 rfl 10 (by decide) k_0 (fun _ h9 => h9) rfl (by decide +kernel) rfl rfl (Nat.le_of_ble_eq_true rfl) dX9_readCommand_347 (fun H locs hP hD hS => ?_)
            have hP : va_P D vwCl (wMo cy a0 a1 a2 a3 a4 a5 a6 (mO' (mW' rr (m_X9_does (mW rr) ((mT mo) (mP mo).toNatClampNeg) a b c_).2) ((mO rr) + (0 : Int32)))) H := va_P_eq hP s_Mo_0_10
            have hD : va_D A (wMo cy a0 a1 a2 a3 a4 a5 a6 (mO' (mW' rr (m_X9_does (mW rr) ((mT mo) (mP mo).toNatClampNeg) a b c_).2) ((mO rr) + (0 : Int32)))) := va_D_eq hD s_Mo_0_10
            refine lv_iconst (v := (1 : Int32)) hx hb dX9_readCommand_350 (by decide) ?_
            exact mu_zret hx hb hr hlocks rfl hP hS dX9_readCommand_351 (by rw [← hQ, m_X9_readCommand_L304, if_neg c_1, if_neg c_2, if_neg c_3, if_neg c_4]) (by rw [← hQ, m_X9_readCommand_L304, if_neg c_1, if_neg c_2, if_neg c_3, if_neg c_4])
        · skip
          refine lv_iconst (v := (0 : Int32)) hx hb dX9_readCommand_321 (by decide) ?_
          exact mu_zret hx hb hr hlocks rfl hP hS dX9_readCommand_322 (by rw [← hQ, m_X9_readCommand_L304, if_neg c_1, if_neg c_2, if_pos c_3]) (by rw [← hQ, m_X9_readCommand_L304, if_neg c_1, if_neg c_2, if_pos c_3])
  refine lv_aload_n hx hb dX9_readCommand_0 rfl (lv_at hl 0 rfl) ?_
  refine va_get (D := D) (ci := 7) (v := .ref a1) (C := RX9) (T := TX9) (N := 11) hx hb hts in_X9 hown hG.1 hP 0 g_Mo_0 rfl 1 (by decide) k_1 (fun _ h9 => h9) rfl dX9_readCommand_1 ?_
  refine lv_aload_n hx hb dX9_readCommand_4 rfl (lv_at hl 0 rfl) ?_
  refine va_get (D := D) (ci := 7) (v := .int (mP mo)) (C := RX9) (T := TX9) (N := 11) hx hb hts in_X9 hown hG.1 hP 0 g_Mo_0 rfl 9 (by decide) k_2 (fun _ h9 => h9) rfl dX9_readCommand_5 ?_
  refine va_iald hx hb hG.1 hP 1 0 (n := 120) (f := (mT mo)) g_Mo_1 rfl (nb_t hT hs) dX9_readCommand_8 ?_
  refine lv_istore_n (lv' := [(2, .int ((mT mo) (mP mo).toNatClampNeg)), (0, .ref a0), (1, .ref a3)]) hx hb dX9_readCommand_9 rfl hl (by decide) rfl (fun ls hl => ?_)
  refine lv_aload_n hx hb dX9_readCommand_10 rfl (lv_at hl 1 rfl) ?_
  refine lv_dup hx hb dX9_readCommand_11 rfl ?_
  refine va_get (D := D) (ci := 7) (v := .int (mP mo)) (C := RX9) (T := TX9) (N := 11) hx hb hts in_X9 hown hG.1 hP 0 g_Mo_0 rfl 9 (by decide) k_2 (fun _ h9 => h9) rfl dX9_readCommand_12 ?_
  refine lv_iconst (v := (1 : Int32)) hx hb dX9_readCommand_15 (by decide) ?_
  refine lv_iadd hx hb dX9_readCommand_16 ?_
  refine va_put (D := D) (ci := 7) (v := .int ((mP mo) + (1 : Int32))) (ty := .int) (C := RX9) (T := TX9) (N := 11) hx hb hts in_X9 tyX9 tyX9_ok nmX9 hown hG.1 hP hD hS 0 g_Mo_0 rfl 9 (by decide) k_2 (fun _ h9 => h9) rfl (by decide +kernel) rfl rfl (Nat.le_of_ble_eq_true rfl) dX9_readCommand_17 (fun H locs hP hD hS => ?_)
  have hP : va_P D vwCl (wMo cy a0 a1 a2 a3 a4 a5 a6 (mP' mo ((mP mo) + (1 : Int32)))) H := va_P_eq hP s_Mo_0_9
  have hD : va_D A (wMo cy a0 a1 a2 a3 a4 a5 a6 (mP' mo ((mP mo) + (1 : Int32)))) := va_D_eq hD s_Mo_0_9
  refine lv_iconst (v := (0 : Int32)) hx hb dX9_readCommand_20 (by decide) ?_
  refine lv_istore_n (lv' := [(3, .int (0 : Int32)), (2, .int ((mT mo) (mP mo).toNatClampNeg)), (0, .ref a0), (1, .ref a3)]) hx hb dX9_readCommand_21 rfl hl (by decide) rfl (fun ls hl => ?_)
  refine lv_iconst (v := (0 : Int32)) hx hb dX9_readCommand_22 (by decide) ?_
  refine lv_istore (lv' := [(4, .int (0 : Int32)), (3, .int (0 : Int32)), (2, .int ((mT mo) (mP mo).toNatClampNeg)), (0, .ref a0), (1, .ref a3)]) hx hb dX9_readCommand_23 hl (by decide) rfl (fun ls hl => ?_)
  refine lv_iconst (v := (0 : Int32)) hx hb dX9_readCommand_25 (by decide) ?_
  refine lv_istore (lv' := [(5, .int (0 : Int32)), (4, .int (0 : Int32)), (3, .int (0 : Int32)), (2, .int ((mT mo) (mP mo).toNatClampNeg)), (0, .ref a0), (1, .ref a3)]) hx hb dX9_readCommand_26 hl (by decide) rfl (fun ls hl => ?_)
  refine lv_iload_n hx hb dX9_readCommand_28 rfl (lv_at hl 3 rfl) ?_
  by_cases c_5 : ((mT mo) (mP mo).toNatClampNeg) = (100 : Int32)
  · refine lv_lookup (tgt := 280) hx hb dX9_readCommand_29 (by decide) (by rw [c_5]; first | done | rfl) (by decide) ?_
    refine lv_aload_n hx hb dX9_readCommand_280 rfl (lv_at hl 4 rfl) ?_
    refine lv_iconst (v := (1 : Int32)) hx hb dX9_readCommand_281 (by decide) ?_
    refine lv_iconst (v := (1 : Int32)) hx hb dX9_readCommand_282 (by decide) ?_
    refine lv_bipush (v := (9 : Int32)) hx hb dX9_readCommand_283 (by decide) ?_
    refine muV (A0 := A) (wc := (wMo cy a0 a1 a2 a3 a4 a5 a6 (mP' mo ((mP mo) + (1 : Int32))))) (As := [.int (1 : Int32), .int (1 : Int32), .int (9 : Int32)]) (rest := []) (c_X9_number l D cy a0 a1 a2 a3 a4 a5 a6 (mP' mo ((mP mo) + (1 : Int32))) (1 : Int32) (1 : Int32) (9 : Int32) (nb_up hT hs)) hCF gX9_readCommand_X9_number rfl hd_X9_number ⟨rfl, rfl, Nat.le_of_ble_eq_true rfl, Nat.le_of_ble_eq_true rfl⟩ hG hP hD hS hA [0, 1, 2, 3, 4, 5, 6] rfl c_Mo_Mo h_Mo (ci := 7) rfl rfl g_Mo_0 rfl hl.1 rfl (Nat.le_of_ble_eq_true rfl) dX9_readCommand_285 ⟨Nat.le_refl _, Nat.le_refl _⟩ (fun H locs hP hD hS => ?_)
    have hP : va_P D vwCl (wMo cy a0 a1 a2 a3 a4 a5 a6 (m_X9_number (mP' mo ((mP mo) + (1 : Int32))) (1 : Int32) (1 : Int32) (9 : Int32)).2) H := va_P_eq hP r_Mo_Mo
    have hD : va_D A (wMo cy a0 a1 a2 a3 a4 a5 a6 (m_X9_number (mP' mo ((mP mo) + (1 : Int32))) (1 : Int32) (1 : Int32) (9 : Int32)).2) := va_D_eq hD r_Mo_Mo
    refine lv_istore_n (lv' := [(3, .int (m_X9_number (mP' mo ((mP mo) + (1 : Int32))) (1 : Int32) (1 : Int32) (9 : Int32)).1), (5, .int (0 : Int32)), (4, .int (0 : Int32)), (2, .int ((mT mo) (mP mo).toNatClampNeg)), (0, .ref a0), (1, .ref a3)]) hx hb dX9_readCommand_288 rfl hl (by decide) rfl (fun ls hl => ?_)
    refine lv_goto (tgt := 304) hx hb dX9_readCommand_289 (by decide) ?_
    exact L_304  (m_X9_number (mP' mo ((mP mo) + (1 : Int32))) (1 : Int32) (1 : Int32) (9 : Int32)).2 (m_X9_number (mP' mo ((mP mo) + (1 : Int32))) (1 : Int32) (1 : Int32) (9 : Int32)).1 (0 : Int32) (0 : Int32) (nb_T (nb_up hT hs)) (nb_W hW) (by rw [m_X9_readCommand, if_pos c_5]) H locs hP hD hS ls (lv_sub hl [4, 5, 3, 0, 2, 1] rfl)
  by_cases c_6 : ((mT mo) (mP mo).toNatClampNeg) = (108 : Int32)
  · refine lv_lookup (tgt := 137) hx hb dX9_readCommand_29 (by decide) (by rw [c_6]; first | done | rfl) (by decide) ?_
    refine lv_aload_n hx hb dX9_readCommand_137 rfl (lv_at hl 4 rfl) ?_
    refine lv_iconst (v := (2 : Int32)) hx hb dX9_readCommand_138 (by decide) ?_
    refine lv_iconst (v := (0 : Int32)) hx hb dX9_readCommand_139 (by decide) ?_
    refine lv_bipush (v := (15 : Int32)) hx hb dX9_readCommand_140 (by decide) ?_
    refine muV (A0 := A) (wc := (wMo cy a0 a1 a2 a3 a4 a5 a6 (mP' mo ((mP mo) + (1 : Int32))))) (As := [.int (2 : Int32), .int (0 : Int32), .int (15 : Int32)]) (rest := []) (c_X9_number l D cy a0 a1 a2 a3 a4 a5 a6 (mP' mo ((mP mo) + (1 : Int32))) (2 : Int32) (0 : Int32) (15 : Int32) (nb_up hT hs)) hCF gX9_readCommand_X9_number rfl hd_X9_number ⟨rfl, rfl, Nat.le_of_ble_eq_true rfl, Nat.le_of_ble_eq_true rfl⟩ hG hP hD hS hA [0, 1, 2, 3, 4, 5, 6] rfl c_Mo_Mo h_Mo (ci := 7) rfl rfl g_Mo_0 rfl hl.1 rfl (Nat.le_of_ble_eq_true rfl) dX9_readCommand_142 ⟨Nat.le_refl _, Nat.le_refl _⟩ (fun H locs hP hD hS => ?_)
    have hP : va_P D vwCl (wMo cy a0 a1 a2 a3 a4 a5 a6 (m_X9_number (mP' mo ((mP mo) + (1 : Int32))) (2 : Int32) (0 : Int32) (15 : Int32)).2) H := va_P_eq hP r_Mo_Mo
    have hD : va_D A (wMo cy a0 a1 a2 a3 a4 a5 a6 (m_X9_number (mP' mo ((mP mo) + (1 : Int32))) (2 : Int32) (0 : Int32) (15 : Int32)).2) := va_D_eq hD r_Mo_Mo
    refine lv_istore_n (lv' := [(3, .int (m_X9_number (mP' mo ((mP mo) + (1 : Int32))) (2 : Int32) (0 : Int32) (15 : Int32)).1), (5, .int (0 : Int32)), (4, .int (0 : Int32)), (2, .int ((mT mo) (mP mo).toNatClampNeg)), (0, .ref a0), (1, .ref a3)]) hx hb dX9_readCommand_145 rfl hl (by decide) rfl (fun ls hl => ?_)
    refine lv_iload_n hx hb dX9_readCommand_146 rfl (lv_at hl 0 rfl) ?_
    refine lv_iconst (v := (-1 : Int32)) hx hb dX9_readCommand_147 (by decide) ?_
    refine lv_icmp_ne (tgt := 155) hx hb dX9_readCommand_148 (by decide) (fun c_7 => ?_) (fun c_7 => ?_)
    · skip
      refine lv_aload_n hx hb dX9_readCommand_155 rfl (lv_at hl 4 rfl) ?_
      refine lv_iconst (v := (1 : Int32)) hx hb dX9_readCommand_156 (by decide) ?_
      refine lv_iconst (v := (0 : Int32)) hx hb dX9_readCommand_157 (by decide) ?_
      refine lv_iconst (v := (4 : Int32)) hx hb dX9_readCommand_158 (by decide) ?_
      refine muV (A0 := A) (wc := (wMo cy a0 a1 a2 a3 a4 a5 a6 (m_X9_number (mP' mo ((mP mo) + (1 : Int32))) (2 : Int32) (0 : Int32) (15 : Int32)).2)) (As := [.int (1 : Int32), .int (0 : Int32), .int (4 : Int32)]) (rest := []) (c_X9_number l D cy a0 a1 a2 a3 a4 a5 a6 (m_X9_number (mP' mo ((mP mo) + (1 : Int32))) (2 : Int32) (0 : Int32) (15 : Int32)).2 (1 : Int32) (0 : Int32) (4 : Int32) (nb_T (nb_up hT hs))) hCF gX9_readCommand_X9_number rfl hd_X9_number ⟨rfl, rfl, Nat.le_of_ble_eq_true rfl, Nat.le_of_ble_eq_true rfl⟩ hG hP hD hS hA [0, 1, 2, 3, 4, 5, 6] rfl c_Mo_Mo h_Mo (ci := 7) rfl rfl g_Mo_0 rfl hl.1 rfl (Nat.le_of_ble_eq_true rfl) dX9_readCommand_159 ⟨Nat.le_refl _, Nat.le_refl _⟩ (fun H locs hP hD hS => ?_)
      have hP : va_P D vwCl (wMo cy a0 a1 a2 a3 a4 a5 a6 (m_X9_number (m_X9_number (mP' mo ((mP mo) + (1 : Int32))) (2 : Int32) (0 : Int32) (15 : Int32)).2 (1 : Int32) (0 : Int32) (4 : Int32)).2) H := va_P_eq hP r_Mo_Mo
      have hD : va_D A (wMo cy a0 a1 a2 a3 a4 a5 a6 (m_X9_number (m_X9_number (mP' mo ((mP mo) + (1 : Int32))) (2 : Int32) (0 : Int32) (15 : Int32)).2 (1 : Int32) (0 : Int32) (4 : Int32)).2) := va_D_eq hD r_Mo_Mo
      refine lv_istore (lv' := [(4, .int (m_X9_number (m_X9_number (mP' mo ((mP mo) + (1 : Int32))) (2 : Int32) (0 : Int32) (15 : Int32)).2 (1 : Int32) (0 : Int32) (4 : Int32)).1), (3, .int (m_X9_number (mP' mo ((mP mo) + (1 : Int32))) (2 : Int32) (0 : Int32) (15 : Int32)).1), (5, .int (0 : Int32)), (2, .int ((mT mo) (mP mo).toNatClampNeg)), (0, .ref a0), (1, .ref a3)]) hx hb dX9_readCommand_162 hl (by decide) rfl (fun ls hl => ?_)
      refine lv_iload hx hb dX9_readCommand_164 (lv_at hl 0 rfl) ?_
      refine lv_iconst (v := (-1 : Int32)) hx hb dX9_readCommand_166 (by decide) ?_
      refine lv_icmp_ne (tgt := 174) hx hb dX9_readCommand_167 (by decide) (fun c_8 => ?_) (fun c_8 => ?_)
      · skip
        refine lv_aload_n hx hb dX9_readCommand_174 rfl (lv_at hl 4 rfl) ?_
        refine lv_iconst (v := (2 : Int32)) hx hb dX9_readCommand_175 (by decide) ?_
        refine lv_iconst (v := (1 : Int32)) hx hb dX9_readCommand_176 (by decide) ?_
        refine lv_bipush (v := (30 : Int32)) hx hb dX9_readCommand_177 (by decide) ?_
        refine muV (A0 := A) (wc := (wMo cy a0 a1 a2 a3 a4 a5 a6 (m_X9_number (m_X9_number (mP' mo ((mP mo) + (1 : Int32))) (2 : Int32) (0 : Int32) (15 : Int32)).2 (1 : Int32) (0 : Int32) (4 : Int32)).2)) (As := [.int (2 : Int32), .int (1 : Int32), .int (30 : Int32)]) (rest := []) (c_X9_number l D cy a0 a1 a2 a3 a4 a5 a6 (m_X9_number (m_X9_number (mP' mo ((mP mo) + (1 : Int32))) (2 : Int32) (0 : Int32) (15 : Int32)).2 (1 : Int32) (0 : Int32) (4 : Int32)).2 (2 : Int32) (1 : Int32) (30 : Int32) (nb_T (nb_T (nb_up hT hs)))) hCF gX9_readCommand_X9_number rfl hd_X9_number ⟨rfl, rfl, Nat.le_of_ble_eq_true rfl, Nat.le_of_ble_eq_true rfl⟩ hG hP hD hS hA [0, 1, 2, 3, 4, 5, 6] rfl c_Mo_Mo h_Mo (ci := 7) rfl rfl g_Mo_0 rfl hl.1 rfl (Nat.le_of_ble_eq_true rfl) dX9_readCommand_179 ⟨Nat.le_refl _, Nat.le_refl _⟩ (fun H locs hP hD hS => ?_)
        have hP : va_P D vwCl (wMo cy a0 a1 a2 a3 a4 a5 a6 (m_X9_number (m_X9_number (m_X9_number (mP' mo ((mP mo) + (1 : Int32))) (2 : Int32) (0 : Int32) (15 : Int32)).2 (1 : Int32) (0 : Int32) (4 : Int32)).2 (2 : Int32) (1 : Int32) (30 : Int32)).2) H := va_P_eq hP r_Mo_Mo
        have hD : va_D A (wMo cy a0 a1 a2 a3 a4 a5 a6 (m_X9_number (m_X9_number (m_X9_number (mP' mo ((mP mo) + (1 : Int32))) (2 : Int32) (0 : Int32) (15 : Int32)).2 (1 : Int32) (0 : Int32) (4 : Int32)).2 (2 : Int32) (1 : Int32) (30 : Int32)).2) := va_D_eq hD r_Mo_Mo
        refine lv_istore (lv' := [(5, .int (m_X9_number (m_X9_number (m_X9_number (mP' mo ((mP mo) + (1 : Int32))) (2 : Int32) (0 : Int32) (15 : Int32)).2 (1 : Int32) (0 : Int32) (4 : Int32)).2 (2 : Int32) (1 : Int32) (30 : Int32)).1), (4, .int (m_X9_number (m_X9_number (mP' mo ((mP mo) + (1 : Int32))) (2 : Int32) (0 : Int32) (15 : Int32)).2 (1 : Int32) (0 : Int32) (4 : Int32)).1), (3, .int (m_X9_number (mP' mo ((mP mo) + (1 : Int32))) (2 : Int32) (0 : Int32) (15 : Int32)).1), (2, .int ((mT mo) (mP mo).toNatClampNeg)), (0, .ref a0), (1, .ref a3)]) hx hb dX9_readCommand_182 hl (by decide) rfl (fun ls hl => ?_)
        refine lv_goto (tgt := 304) hx hb dX9_readCommand_184 (by decide) ?_
        exact L_304  (m_X9_number (m_X9_number (m_X9_number (mP' mo ((mP mo) + (1 : Int32))) (2 : Int32) (0 : Int32) (15 : Int32)).2 (1 : Int32) (0 : Int32) (4 : Int32)).2 (2 : Int32) (1 : Int32) (30 : Int32)).2 (m_X9_number (mP' mo ((mP mo) + (1 : Int32))) (2 : Int32) (0 : Int32) (15 : Int32)).1 (m_X9_number (m_X9_number (mP' mo ((mP mo) + (1 : Int32))) (2 : Int32) (0 : Int32) (15 : Int32)).2 (1 : Int32) (0 : Int32) (4 : Int32)).1 (m_X9_number (m_X9_number (m_X9_number (mP' mo ((mP mo) + (1 : Int32))) (2 : Int32) (0 : Int32) (15 : Int32)).2 (1 : Int32) (0 : Int32) (4 : Int32)).2 (2 : Int32) (1 : Int32) (30 : Int32)).1 (nb_T (nb_T (nb_T (nb_up hT hs)))) (nb_W (nb_W (nb_W hW))) (by rw [m_X9_readCommand, if_neg c_5, if_pos c_6, if_neg c_7, if_neg c_8]) H locs hP hD hS ls (lv_sub hl [4, 5, 3, 2, 1, 0] rfl)
      · skip
        refine lv_iconst (v := (-1 : Int32)) hx hb dX9_readCommand_170 (by decide) ?_
        refine lv_goto (tgt := 182) hx hb dX9_readCommand_171 (by decide) ?_
        refine lv_istore (lv' := [(5, .int (-1 : Int32)), (4, .int (m_X9_number (m_X9_number (mP' mo ((mP mo) + (1 : Int32))) (2 : Int32) (0 : Int32) (15 : Int32)).2 (1 : Int32) (0 : Int32) (4 : Int32)).1), (3, .int (m_X9_number (mP' mo ((mP mo) + (1 : Int32))) (2 : Int32) (0 : Int32) (15 : Int32)).1), (2, .int ((mT mo) (mP mo).toNatClampNeg)), (0, .ref a0), (1, .ref a3)]) hx hb dX9_readCommand_182 hl (by decide) rfl (fun ls hl => ?_)
        refine lv_goto (tgt := 304) hx hb dX9_readCommand_184 (by decide) ?_
        exact L_304  (m_X9_number (m_X9_number (mP' mo ((mP mo) + (1 : Int32))) (2 : Int32) (0 : Int32) (15 : Int32)).2 (1 : Int32) (0 : Int32) (4 : Int32)).2 (m_X9_number (mP' mo ((mP mo) + (1 : Int32))) (2 : Int32) (0 : Int32) (15 : Int32)).1 (m_X9_number (m_X9_number (mP' mo ((mP mo) + (1 : Int32))) (2 : Int32) (0 : Int32) (15 : Int32)).2 (1 : Int32) (0 : Int32) (4 : Int32)).1 (-1 : Int32) (nb_T (nb_T (nb_up hT hs))) (nb_W (nb_W hW)) (by rw [m_X9_readCommand, if_neg c_5, if_pos c_6, if_neg c_7, if_pos c_8]) H locs hP hD hS ls (lv_sub hl [4, 5, 3, 2, 1, 0] rfl)
    · skip
      refine lv_iconst (v := (-1 : Int32)) hx hb dX9_readCommand_151 (by decide) ?_
      refine lv_goto (tgt := 162) hx hb dX9_readCommand_152 (by decide) ?_
      refine lv_istore (lv' := [(4, .int (-1 : Int32)), (3, .int (m_X9_number (mP' mo ((mP mo) + (1 : Int32))) (2 : Int32) (0 : Int32) (15 : Int32)).1), (5, .int (0 : Int32)), (2, .int ((mT mo) (mP mo).toNatClampNeg)), (0, .ref a0), (1, .ref a3)]) hx hb dX9_readCommand_162 hl (by decide) rfl (fun ls hl => ?_)
      refine lv_iload hx hb dX9_readCommand_164 (lv_at hl 0 rfl) ?_
      refine lv_iconst (v := (-1 : Int32)) hx hb dX9_readCommand_166 (by decide) ?_
      refine lv_icmp_ne (tgt := 174) hx hb dX9_readCommand_167 (by decide) (fun c => absurd (by decide) c) (fun _ => ?_)
      refine lv_iconst (v := (-1 : Int32)) hx hb dX9_readCommand_170 (by decide) ?_
      refine lv_goto (tgt := 182) hx hb dX9_readCommand_171 (by decide) ?_
      refine lv_istore (lv' := [(5, .int (-1 : Int32)), (4, .int (-1 : Int32)), (3, .int (m_X9_number (mP' mo ((mP mo) + (1 : Int32))) (2 : Int32) (0 : Int32) (15 : Int32)).1), (2, .int ((mT mo) (mP mo).toNatClampNeg)), (0, .ref a0), (1, .ref a3)]) hx hb dX9_readCommand_182 hl (by decide) rfl (fun ls hl => ?_)
      refine lv_goto (tgt := 304) hx hb dX9_readCommand_184 (by decide) ?_
      exact L_304  (m_X9_number (mP' mo ((mP mo) + (1 : Int32))) (2 : Int32) (0 : Int32) (15 : Int32)).2 (m_X9_number (mP' mo ((mP mo) + (1 : Int32))) (2 : Int32) (0 : Int32) (15 : Int32)).1 (-1 : Int32) (-1 : Int32) (nb_T (nb_up hT hs)) (nb_W hW) (by rw [m_X9_readCommand, if_neg c_5, if_pos c_6, if_pos c_7]) H locs hP hD hS ls (lv_sub hl [4, 5, 3, 2, 1, 0] rfl)
  by_cases c_9 : ((mT mo) (mP mo).toNatClampNeg) = (110 : Int32)
  · refine lv_lookup (tgt := 88) hx hb dX9_readCommand_29 (by decide) (by rw [c_9]; first | done | rfl) (by decide) ?_
    refine lv_aload_n hx hb dX9_readCommand_88 rfl (lv_at hl 4 rfl) ?_
    refine lv_iconst (v := (1 : Int32)) hx hb dX9_readCommand_89 (by decide) ?_
    refine lv_iconst (v := (0 : Int32)) hx hb dX9_readCommand_90 (by decide) ?_
    refine lv_iconst (v := (2 : Int32)) hx hb dX9_readCommand_91 (by decide) ?_
    refine muV (A0 := A) (wc := (wMo cy a0 a1 a2 a3 a4 a5 a6 (mP' mo ((mP mo) + (1 : Int32))))) (As := [.int (1 : Int32), .int (0 : Int32), .int (2 : Int32)]) (rest := []) (c_X9_number l D cy a0 a1 a2 a3 a4 a5 a6 (mP' mo ((mP mo) + (1 : Int32))) (1 : Int32) (0 : Int32) (2 : Int32) (nb_up hT hs)) hCF gX9_readCommand_X9_number rfl hd_X9_number ⟨rfl, rfl, Nat.le_of_ble_eq_true rfl, Nat.le_of_ble_eq_true rfl⟩ hG hP hD hS hA [0, 1, 2, 3, 4, 5, 6] rfl c_Mo_Mo h_Mo (ci := 7) rfl rfl g_Mo_0 rfl hl.1 rfl (Nat.le_of_ble_eq_true rfl) dX9_readCommand_92 ⟨Nat.le_refl _, Nat.le_refl _⟩ (fun H locs hP hD hS => ?_)
    have hP : va_P D vwCl (wMo cy a0 a1 a2 a3 a4 a5 a6 (m_X9_number (mP' mo ((mP mo) + (1 : Int32))) (1 : Int32) (0 : Int32) (2 : Int32)).2) H := va_P_eq hP r_Mo_Mo
    have hD : va_D A (wMo cy a0 a1 a2 a3 a4 a5 a6 (m_X9_number (mP' mo ((mP mo) + (1 : Int32))) (1 : Int32) (0 : Int32) (2 : Int32)).2) := va_D_eq hD r_Mo_Mo
    refine lv_istore_n (lv' := [(3, .int (m_X9_number (mP' mo ((mP mo) + (1 : Int32))) (1 : Int32) (0 : Int32) (2 : Int32)).1), (5, .int (0 : Int32)), (4, .int (0 : Int32)), (2, .int ((mT mo) (mP mo).toNatClampNeg)), (0, .ref a0), (1, .ref a3)]) hx hb dX9_readCommand_95 rfl hl (by decide) rfl (fun ls hl => ?_)
    refine lv_iload_n hx hb dX9_readCommand_96 rfl (lv_at hl 0 rfl) ?_
    refine lv_iconst (v := (-1 : Int32)) hx hb dX9_readCommand_97 (by decide) ?_
    refine lv_icmp_ne (tgt := 105) hx hb dX9_readCommand_98 (by decide) (fun c_10 => ?_) (fun c_10 => ?_)
    · skip
      refine lv_aload_n hx hb dX9_readCommand_105 rfl (lv_at hl 4 rfl) ?_
      refine lv_iconst (v := (1 : Int32)) hx hb dX9_readCommand_106 (by decide) ?_
      refine lv_iconst (v := (0 : Int32)) hx hb dX9_readCommand_107 (by decide) ?_
      refine lv_iconst (v := (4 : Int32)) hx hb dX9_readCommand_108 (by decide) ?_
      refine muV (A0 := A) (wc := (wMo cy a0 a1 a2 a3 a4 a5 a6 (m_X9_number (mP' mo ((mP mo) + (1 : Int32))) (1 : Int32) (0 : Int32) (2 : Int32)).2)) (As := [.int (1 : Int32), .int (0 : Int32), .int (4 : Int32)]) (rest := []) (c_X9_number l D cy a0 a1 a2 a3 a4 a5 a6 (m_X9_number (mP' mo ((mP mo) + (1 : Int32))) (1 : Int32) (0 : Int32) (2 : Int32)).2 (1 : Int32) (0 : Int32) (4 : Int32) (nb_T (nb_up hT hs))) hCF gX9_readCommand_X9_number rfl hd_X9_number ⟨rfl, rfl, Nat.le_of_ble_eq_true rfl, Nat.le_of_ble_eq_true rfl⟩ hG hP hD hS hA [0, 1, 2, 3, 4, 5, 6] rfl c_Mo_Mo h_Mo (ci := 7) rfl rfl g_Mo_0 rfl hl.1 rfl (Nat.le_of_ble_eq_true rfl) dX9_readCommand_109 ⟨Nat.le_refl _, Nat.le_refl _⟩ (fun H locs hP hD hS => ?_)
      have hP : va_P D vwCl (wMo cy a0 a1 a2 a3 a4 a5 a6 (m_X9_number (m_X9_number (mP' mo ((mP mo) + (1 : Int32))) (1 : Int32) (0 : Int32) (2 : Int32)).2 (1 : Int32) (0 : Int32) (4 : Int32)).2) H := va_P_eq hP r_Mo_Mo
      have hD : va_D A (wMo cy a0 a1 a2 a3 a4 a5 a6 (m_X9_number (m_X9_number (mP' mo ((mP mo) + (1 : Int32))) (1 : Int32) (0 : Int32) (2 : Int32)).2 (1 : Int32) (0 : Int32) (4 : Int32)).2) := va_D_eq hD r_Mo_Mo
      refine lv_istore (lv' := [(4, .int (m_X9_number (m_X9_number (mP' mo ((mP mo) + (1 : Int32))) (1 : Int32) (0 : Int32) (2 : Int32)).2 (1 : Int32) (0 : Int32) (4 : Int32)).1), (3, .int (m_X9_number (mP' mo ((mP mo) + (1 : Int32))) (1 : Int32) (0 : Int32) (2 : Int32)).1), (5, .int (0 : Int32)), (2, .int ((mT mo) (mP mo).toNatClampNeg)), (0, .ref a0), (1, .ref a3)]) hx hb dX9_readCommand_112 hl (by decide) rfl (fun ls hl => ?_)
      refine lv_iload hx hb dX9_readCommand_114 (lv_at hl 0 rfl) ?_
      refine lv_iconst (v := (-1 : Int32)) hx hb dX9_readCommand_116 (by decide) ?_
      refine lv_icmp_ne (tgt := 124) hx hb dX9_readCommand_117 (by decide) (fun c_11 => ?_) (fun c_11 => ?_)
      · skip
        refine lv_aload_n hx hb dX9_readCommand_124 rfl (lv_at hl 4 rfl) ?_
        refine lv_iconst (v := (1 : Int32)) hx hb dX9_readCommand_125 (by decide) ?_
        refine lv_iconst (v := (0 : Int32)) hx hb dX9_readCommand_126 (by decide) ?_
        refine lv_bipush (v := (7 : Int32)) hx hb dX9_readCommand_127 (by decide) ?_
        refine muV (A0 := A) (wc := (wMo cy a0 a1 a2 a3 a4 a5 a6 (m_X9_number (m_X9_number (mP' mo ((mP mo) + (1 : Int32))) (1 : Int32) (0 : Int32) (2 : Int32)).2 (1 : Int32) (0 : Int32) (4 : Int32)).2)) (As := [.int (1 : Int32), .int (0 : Int32), .int (7 : Int32)]) (rest := []) (c_X9_number l D cy a0 a1 a2 a3 a4 a5 a6 (m_X9_number (m_X9_number (mP' mo ((mP mo) + (1 : Int32))) (1 : Int32) (0 : Int32) (2 : Int32)).2 (1 : Int32) (0 : Int32) (4 : Int32)).2 (1 : Int32) (0 : Int32) (7 : Int32) (nb_T (nb_T (nb_up hT hs)))) hCF gX9_readCommand_X9_number rfl hd_X9_number ⟨rfl, rfl, Nat.le_of_ble_eq_true rfl, Nat.le_of_ble_eq_true rfl⟩ hG hP hD hS hA [0, 1, 2, 3, 4, 5, 6] rfl c_Mo_Mo h_Mo (ci := 7) rfl rfl g_Mo_0 rfl hl.1 rfl (Nat.le_of_ble_eq_true rfl) dX9_readCommand_129 ⟨Nat.le_refl _, Nat.le_refl _⟩ (fun H locs hP hD hS => ?_)
        have hP : va_P D vwCl (wMo cy a0 a1 a2 a3 a4 a5 a6 (m_X9_number (m_X9_number (m_X9_number (mP' mo ((mP mo) + (1 : Int32))) (1 : Int32) (0 : Int32) (2 : Int32)).2 (1 : Int32) (0 : Int32) (4 : Int32)).2 (1 : Int32) (0 : Int32) (7 : Int32)).2) H := va_P_eq hP r_Mo_Mo
        have hD : va_D A (wMo cy a0 a1 a2 a3 a4 a5 a6 (m_X9_number (m_X9_number (m_X9_number (mP' mo ((mP mo) + (1 : Int32))) (1 : Int32) (0 : Int32) (2 : Int32)).2 (1 : Int32) (0 : Int32) (4 : Int32)).2 (1 : Int32) (0 : Int32) (7 : Int32)).2) := va_D_eq hD r_Mo_Mo
        refine lv_istore (lv' := [(5, .int (m_X9_number (m_X9_number (m_X9_number (mP' mo ((mP mo) + (1 : Int32))) (1 : Int32) (0 : Int32) (2 : Int32)).2 (1 : Int32) (0 : Int32) (4 : Int32)).2 (1 : Int32) (0 : Int32) (7 : Int32)).1), (4, .int (m_X9_number (m_X9_number (mP' mo ((mP mo) + (1 : Int32))) (1 : Int32) (0 : Int32) (2 : Int32)).2 (1 : Int32) (0 : Int32) (4 : Int32)).1), (3, .int (m_X9_number (mP' mo ((mP mo) + (1 : Int32))) (1 : Int32) (0 : Int32) (2 : Int32)).1), (2, .int ((mT mo) (mP mo).toNatClampNeg)), (0, .ref a0), (1, .ref a3)]) hx hb dX9_readCommand_132 hl (by decide) rfl (fun ls hl => ?_)
        refine lv_goto (tgt := 304) hx hb dX9_readCommand_134 (by decide) ?_
        exact L_304  (m_X9_number (m_X9_number (m_X9_number (mP' mo ((mP mo) + (1 : Int32))) (1 : Int32) (0 : Int32) (2 : Int32)).2 (1 : Int32) (0 : Int32) (4 : Int32)).2 (1 : Int32) (0 : Int32) (7 : Int32)).2 (m_X9_number (mP' mo ((mP mo) + (1 : Int32))) (1 : Int32) (0 : Int32) (2 : Int32)).1 (m_X9_number (m_X9_number (mP' mo ((mP mo) + (1 : Int32))) (1 : Int32) (0 : Int32) (2 : Int32)).2 (1 : Int32) (0 : Int32) (4 : Int32)).1 (m_X9_number (m_X9_number (m_X9_number (mP' mo ((mP mo) + (1 : Int32))) (1 : Int32) (0 : Int32) (2 : Int32)).2 (1 : Int32) (0 : Int32) (4 : Int32)).2 (1 : Int32) (0 : Int32) (7 : Int32)).1 (nb_T (nb_T (nb_T (nb_up hT hs)))) (nb_W (nb_W (nb_W hW))) (by rw [m_X9_readCommand, if_neg c_5, if_neg c_6, if_pos c_9, if_neg c_10, if_neg c_11]) H locs hP hD hS ls (lv_sub hl [4, 5, 3, 2, 1, 0] rfl)
      · skip
        refine lv_iconst (v := (-1 : Int32)) hx hb dX9_readCommand_120 (by decide) ?_
        refine lv_goto (tgt := 132) hx hb dX9_readCommand_121 (by decide) ?_
        refine lv_istore (lv' := [(5, .int (-1 : Int32)), (4, .int (m_X9_number (m_X9_number (mP' mo ((mP mo) + (1 : Int32))) (1 : Int32) (0 : Int32) (2 : Int32)).2 (1 : Int32) (0 : Int32) (4 : Int32)).1), (3, .int (m_X9_number (mP' mo ((mP mo) + (1 : Int32))) (1 : Int32) (0 : Int32) (2 : Int32)).1), (2, .int ((mT mo) (mP mo).toNatClampNeg)), (0, .ref a0), (1, .ref a3)]) hx hb dX9_readCommand_132 hl (by decide) rfl (fun ls hl => ?_)
        refine lv_goto (tgt := 304) hx hb dX9_readCommand_134 (by decide) ?_
        exact L_304  (m_X9_number (m_X9_number (mP' mo ((mP mo) + (1 : Int32))) (1 : Int32) (0 : Int32) (2 : Int32)).2 (1 : Int32) (0 : Int32) (4 : Int32)).2 (m_X9_number (mP' mo ((mP mo) + (1 : Int32))) (1 : Int32) (0 : Int32) (2 : Int32)).1 (m_X9_number (m_X9_number (mP' mo ((mP mo) + (1 : Int32))) (1 : Int32) (0 : Int32) (2 : Int32)).2 (1 : Int32) (0 : Int32) (4 : Int32)).1 (-1 : Int32) (nb_T (nb_T (nb_up hT hs))) (nb_W (nb_W hW)) (by rw [m_X9_readCommand, if_neg c_5, if_neg c_6, if_pos c_9, if_neg c_10, if_pos c_11]) H locs hP hD hS ls (lv_sub hl [4, 5, 3, 2, 1, 0] rfl)
    · skip
      refine lv_iconst (v := (-1 : Int32)) hx hb dX9_readCommand_101 (by decide) ?_
      refine lv_goto (tgt := 112) hx hb dX9_readCommand_102 (by decide) ?_
      refine lv_istore (lv' := [(4, .int (-1 : Int32)), (3, .int (m_X9_number (mP' mo ((mP mo) + (1 : Int32))) (1 : Int32) (0 : Int32) (2 : Int32)).1), (5, .int (0 : Int32)), (2, .int ((mT mo) (mP mo).toNatClampNeg)), (0, .ref a0), (1, .ref a3)]) hx hb dX9_readCommand_112 hl (by decide) rfl (fun ls hl => ?_)
      refine lv_iload hx hb dX9_readCommand_114 (lv_at hl 0 rfl) ?_
      refine lv_iconst (v := (-1 : Int32)) hx hb dX9_readCommand_116 (by decide) ?_
      refine lv_icmp_ne (tgt := 124) hx hb dX9_readCommand_117 (by decide) (fun c => absurd (by decide) c) (fun _ => ?_)
      refine lv_iconst (v := (-1 : Int32)) hx hb dX9_readCommand_120 (by decide) ?_
      refine lv_goto (tgt := 132) hx hb dX9_readCommand_121 (by decide) ?_
      refine lv_istore (lv' := [(5, .int (-1 : Int32)), (4, .int (-1 : Int32)), (3, .int (m_X9_number (mP' mo ((mP mo) + (1 : Int32))) (1 : Int32) (0 : Int32) (2 : Int32)).1), (2, .int ((mT mo) (mP mo).toNatClampNeg)), (0, .ref a0), (1, .ref a3)]) hx hb dX9_readCommand_132 hl (by decide) rfl (fun ls hl => ?_)
      refine lv_goto (tgt := 304) hx hb dX9_readCommand_134 (by decide) ?_
      exact L_304  (m_X9_number (mP' mo ((mP mo) + (1 : Int32))) (1 : Int32) (0 : Int32) (2 : Int32)).2 (m_X9_number (mP' mo ((mP mo) + (1 : Int32))) (1 : Int32) (0 : Int32) (2 : Int32)).1 (-1 : Int32) (-1 : Int32) (nb_T (nb_up hT hs)) (nb_W hW) (by rw [m_X9_readCommand, if_neg c_5, if_neg c_6, if_pos c_9, if_pos c_10]) H locs hP hD hS ls (lv_sub hl [4, 5, 3, 2, 1, 0] rfl)
  by_cases c_12 : ((mT mo) (mP mo).toNatClampNeg) = (114 : Int32)
  · refine lv_lookup (tgt := 187) hx hb dX9_readCommand_29 (by decide) (by rw [c_12]; first | done | rfl) (by decide) ?_
    refine lv_aload_n hx hb dX9_readCommand_187 rfl (lv_at hl 4 rfl) ?_
    refine lv_iconst (v := (2 : Int32)) hx hb dX9_readCommand_188 (by decide) ?_
    refine lv_iconst (v := (0 : Int32)) hx hb dX9_readCommand_189 (by decide) ?_
    refine lv_bipush (v := (15 : Int32)) hx hb dX9_readCommand_190 (by decide) ?_
    refine muV (A0 := A) (wc := (wMo cy a0 a1 a2 a3 a4 a5 a6 (mP' mo ((mP mo) + (1 : Int32))))) (As := [.int (2 : Int32), .int (0 : Int32), .int (15 : Int32)]) (rest := []) (c_X9_number l D cy a0 a1 a2 a3 a4 a5 a6 (mP' mo ((mP mo) + (1 : Int32))) (2 : Int32) (0 : Int32) (15 : Int32) (nb_up hT hs)) hCF gX9_readCommand_X9_number rfl hd_X9_number ⟨rfl, rfl, Nat.le_of_ble_eq_true rfl, Nat.le_of_ble_eq_true rfl⟩ hG hP hD hS hA [0, 1, 2, 3, 4, 5, 6] rfl c_Mo_Mo h_Mo (ci := 7) rfl rfl g_Mo_0 rfl hl.1 rfl (Nat.le_of_ble_eq_true rfl) dX9_readCommand_192 ⟨Nat.le_refl _, Nat.le_refl _⟩ (fun H locs hP hD hS => ?_)
    have hP : va_P D vwCl (wMo cy a0 a1 a2 a3 a4 a5 a6 (m_X9_number (mP' mo ((mP mo) + (1 : Int32))) (2 : Int32) (0 : Int32) (15 : Int32)).2) H := va_P_eq hP r_Mo_Mo
    have hD : va_D A (wMo cy a0 a1 a2 a3 a4 a5 a6 (m_X9_number (mP' mo ((mP mo) + (1 : Int32))) (2 : Int32) (0 : Int32) (15 : Int32)).2) := va_D_eq hD r_Mo_Mo
    refine lv_istore_n (lv' := [(3, .int (m_X9_number (mP' mo ((mP mo) + (1 : Int32))) (2 : Int32) (0 : Int32) (15 : Int32)).1), (5, .int (0 : Int32)), (4, .int (0 : Int32)), (2, .int ((mT mo) (mP mo).toNatClampNeg)), (0, .ref a0), (1, .ref a3)]) hx hb dX9_readCommand_195 rfl hl (by decide) rfl (fun ls hl => ?_)
    refine lv_goto (tgt := 304) hx hb dX9_readCommand_196 (by decide) ?_
    exact L_304  (m_X9_number (mP' mo ((mP mo) + (1 : Int32))) (2 : Int32) (0 : Int32) (15 : Int32)).2 (m_X9_number (mP' mo ((mP mo) + (1 : Int32))) (2 : Int32) (0 : Int32) (15 : Int32)).1 (0 : Int32) (0 : Int32) (nb_T (nb_up hT hs)) (nb_W hW) (by rw [m_X9_readCommand, if_neg c_5, if_neg c_6, if_neg c_9, if_pos c_12]) H locs hP hD hS ls (lv_sub hl [4, 5, 3, 0, 2, 1] rfl)
  by_cases c_13 : ((mT mo) (mP mo).toNatClampNeg) = (116 : Int32)
  · refine lv_lookup (tgt := 230) hx hb dX9_readCommand_29 (by decide) (by rw [c_13]; first | done | rfl) (by decide) ?_
    refine lv_aload_n hx hb dX9_readCommand_230 rfl (lv_at hl 4 rfl) ?_
    refine lv_iconst (v := (2 : Int32)) hx hb dX9_readCommand_231 (by decide) ?_
    refine lv_iconst (v := (0 : Int32)) hx hb dX9_readCommand_232 (by decide) ?_
    refine lv_bipush (v := (15 : Int32)) hx hb dX9_readCommand_233 (by decide) ?_
    refine muV (A0 := A) (wc := (wMo cy a0 a1 a2 a3 a4 a5 a6 (mP' mo ((mP mo) + (1 : Int32))))) (As := [.int (2 : Int32), .int (0 : Int32), .int (15 : Int32)]) (rest := []) (c_X9_number l D cy a0 a1 a2 a3 a4 a5 a6 (mP' mo ((mP mo) + (1 : Int32))) (2 : Int32) (0 : Int32) (15 : Int32) (nb_up hT hs)) hCF gX9_readCommand_X9_number rfl hd_X9_number ⟨rfl, rfl, Nat.le_of_ble_eq_true rfl, Nat.le_of_ble_eq_true rfl⟩ hG hP hD hS hA [0, 1, 2, 3, 4, 5, 6] rfl c_Mo_Mo h_Mo (ci := 7) rfl rfl g_Mo_0 rfl hl.1 rfl (Nat.le_of_ble_eq_true rfl) dX9_readCommand_235 ⟨Nat.le_refl _, Nat.le_refl _⟩ (fun H locs hP hD hS => ?_)
    have hP : va_P D vwCl (wMo cy a0 a1 a2 a3 a4 a5 a6 (m_X9_number (mP' mo ((mP mo) + (1 : Int32))) (2 : Int32) (0 : Int32) (15 : Int32)).2) H := va_P_eq hP r_Mo_Mo
    have hD : va_D A (wMo cy a0 a1 a2 a3 a4 a5 a6 (m_X9_number (mP' mo ((mP mo) + (1 : Int32))) (2 : Int32) (0 : Int32) (15 : Int32)).2) := va_D_eq hD r_Mo_Mo
    refine lv_istore_n (lv' := [(3, .int (m_X9_number (mP' mo ((mP mo) + (1 : Int32))) (2 : Int32) (0 : Int32) (15 : Int32)).1), (5, .int (0 : Int32)), (4, .int (0 : Int32)), (2, .int ((mT mo) (mP mo).toNatClampNeg)), (0, .ref a0), (1, .ref a3)]) hx hb dX9_readCommand_238 rfl hl (by decide) rfl (fun ls hl => ?_)
    refine lv_iload_n hx hb dX9_readCommand_239 rfl (lv_at hl 0 rfl) ?_
    refine lv_iconst (v := (-1 : Int32)) hx hb dX9_readCommand_240 (by decide) ?_
    refine lv_icmp_ne (tgt := 248) hx hb dX9_readCommand_241 (by decide) (fun c_14 => ?_) (fun c_14 => ?_)
    · skip
      refine lv_aload_n hx hb dX9_readCommand_248 rfl (lv_at hl 4 rfl) ?_
      refine lv_iconst (v := (2 : Int32)) hx hb dX9_readCommand_249 (by decide) ?_
      refine lv_iconst (v := (0 : Int32)) hx hb dX9_readCommand_250 (by decide) ?_
      refine lv_bipush (v := (15 : Int32)) hx hb dX9_readCommand_251 (by decide) ?_
      refine muV (A0 := A) (wc := (wMo cy a0 a1 a2 a3 a4 a5 a6 (m_X9_number (mP' mo ((mP mo) + (1 : Int32))) (2 : Int32) (0 : Int32) (15 : Int32)).2)) (As := [.int (2 : Int32), .int (0 : Int32), .int (15 : Int32)]) (rest := []) (c_X9_number l D cy a0 a1 a2 a3 a4 a5 a6 (m_X9_number (mP' mo ((mP mo) + (1 : Int32))) (2 : Int32) (0 : Int32) (15 : Int32)).2 (2 : Int32) (0 : Int32) (15 : Int32) (nb_T (nb_up hT hs))) hCF gX9_readCommand_X9_number rfl hd_X9_number ⟨rfl, rfl, Nat.le_of_ble_eq_true rfl, Nat.le_of_ble_eq_true rfl⟩ hG hP hD hS hA [0, 1, 2, 3, 4, 5, 6] rfl c_Mo_Mo h_Mo (ci := 7) rfl rfl g_Mo_0 rfl hl.1 rfl (Nat.le_of_ble_eq_true rfl) dX9_readCommand_253 ⟨Nat.le_refl _, Nat.le_refl _⟩ (fun H locs hP hD hS => ?_)
      have hP : va_P D vwCl (wMo cy a0 a1 a2 a3 a4 a5 a6 (m_X9_number (m_X9_number (mP' mo ((mP mo) + (1 : Int32))) (2 : Int32) (0 : Int32) (15 : Int32)).2 (2 : Int32) (0 : Int32) (15 : Int32)).2) H := va_P_eq hP r_Mo_Mo
      have hD : va_D A (wMo cy a0 a1 a2 a3 a4 a5 a6 (m_X9_number (m_X9_number (mP' mo ((mP mo) + (1 : Int32))) (2 : Int32) (0 : Int32) (15 : Int32)).2 (2 : Int32) (0 : Int32) (15 : Int32)).2) := va_D_eq hD r_Mo_Mo
      refine lv_istore (lv' := [(4, .int (m_X9_number (m_X9_number (mP' mo ((mP mo) + (1 : Int32))) (2 : Int32) (0 : Int32) (15 : Int32)).2 (2 : Int32) (0 : Int32) (15 : Int32)).1), (3, .int (m_X9_number (mP' mo ((mP mo) + (1 : Int32))) (2 : Int32) (0 : Int32) (15 : Int32)).1), (5, .int (0 : Int32)), (2, .int ((mT mo) (mP mo).toNatClampNeg)), (0, .ref a0), (1, .ref a3)]) hx hb dX9_readCommand_256 hl (by decide) rfl (fun ls hl => ?_)
      refine lv_iload hx hb dX9_readCommand_258 (lv_at hl 0 rfl) ?_
      refine lv_iconst (v := (-1 : Int32)) hx hb dX9_readCommand_260 (by decide) ?_
      refine lv_icmp_ne (tgt := 268) hx hb dX9_readCommand_261 (by decide) (fun c_15 => ?_) (fun c_15 => ?_)
      · skip
        refine lv_aload_n hx hb dX9_readCommand_268 rfl (lv_at hl 4 rfl) ?_
        refine lv_iconst (v := (1 : Int32)) hx hb dX9_readCommand_269 (by decide) ?_
        refine lv_iconst (v := (0 : Int32)) hx hb dX9_readCommand_270 (by decide) ?_
        refine lv_iconst (v := (2 : Int32)) hx hb dX9_readCommand_271 (by decide) ?_
        refine muV (A0 := A) (wc := (wMo cy a0 a1 a2 a3 a4 a5 a6 (m_X9_number (m_X9_number (mP' mo ((mP mo) + (1 : Int32))) (2 : Int32) (0 : Int32) (15 : Int32)).2 (2 : Int32) (0 : Int32) (15 : Int32)).2)) (As := [.int (1 : Int32), .int (0 : Int32), .int (2 : Int32)]) (rest := []) (c_X9_number l D cy a0 a1 a2 a3 a4 a5 a6 (m_X9_number (m_X9_number (mP' mo ((mP mo) + (1 : Int32))) (2 : Int32) (0 : Int32) (15 : Int32)).2 (2 : Int32) (0 : Int32) (15 : Int32)).2 (1 : Int32) (0 : Int32) (2 : Int32) (nb_T (nb_T (nb_up hT hs)))) hCF gX9_readCommand_X9_number rfl hd_X9_number ⟨rfl, rfl, Nat.le_of_ble_eq_true rfl, Nat.le_of_ble_eq_true rfl⟩ hG hP hD hS hA [0, 1, 2, 3, 4, 5, 6] rfl c_Mo_Mo h_Mo (ci := 7) rfl rfl g_Mo_0 rfl hl.1 rfl (Nat.le_of_ble_eq_true rfl) dX9_readCommand_272 ⟨Nat.le_refl _, Nat.le_refl _⟩ (fun H locs hP hD hS => ?_)
        have hP : va_P D vwCl (wMo cy a0 a1 a2 a3 a4 a5 a6 (m_X9_number (m_X9_number (m_X9_number (mP' mo ((mP mo) + (1 : Int32))) (2 : Int32) (0 : Int32) (15 : Int32)).2 (2 : Int32) (0 : Int32) (15 : Int32)).2 (1 : Int32) (0 : Int32) (2 : Int32)).2) H := va_P_eq hP r_Mo_Mo
        have hD : va_D A (wMo cy a0 a1 a2 a3 a4 a5 a6 (m_X9_number (m_X9_number (m_X9_number (mP' mo ((mP mo) + (1 : Int32))) (2 : Int32) (0 : Int32) (15 : Int32)).2 (2 : Int32) (0 : Int32) (15 : Int32)).2 (1 : Int32) (0 : Int32) (2 : Int32)).2) := va_D_eq hD r_Mo_Mo
        refine lv_istore (lv' := [(5, .int (m_X9_number (m_X9_number (m_X9_number (mP' mo ((mP mo) + (1 : Int32))) (2 : Int32) (0 : Int32) (15 : Int32)).2 (2 : Int32) (0 : Int32) (15 : Int32)).2 (1 : Int32) (0 : Int32) (2 : Int32)).1), (4, .int (m_X9_number (m_X9_number (mP' mo ((mP mo) + (1 : Int32))) (2 : Int32) (0 : Int32) (15 : Int32)).2 (2 : Int32) (0 : Int32) (15 : Int32)).1), (3, .int (m_X9_number (mP' mo ((mP mo) + (1 : Int32))) (2 : Int32) (0 : Int32) (15 : Int32)).1), (2, .int ((mT mo) (mP mo).toNatClampNeg)), (0, .ref a0), (1, .ref a3)]) hx hb dX9_readCommand_275 hl (by decide) rfl (fun ls hl => ?_)
        refine lv_goto (tgt := 304) hx hb dX9_readCommand_277 (by decide) ?_
        exact L_304  (m_X9_number (m_X9_number (m_X9_number (mP' mo ((mP mo) + (1 : Int32))) (2 : Int32) (0 : Int32) (15 : Int32)).2 (2 : Int32) (0 : Int32) (15 : Int32)).2 (1 : Int32) (0 : Int32) (2 : Int32)).2 (m_X9_number (mP' mo ((mP mo) + (1 : Int32))) (2 : Int32) (0 : Int32) (15 : Int32)).1 (m_X9_number (m_X9_number (mP' mo ((mP mo) + (1 : Int32))) (2 : Int32) (0 : Int32) (15 : Int32)).2 (2 : Int32) (0 : Int32) (15 : Int32)).1 (m_X9_number (m_X9_number (m_X9_number (mP' mo ((mP mo) + (1 : Int32))) (2 : Int32) (0 : Int32) (15 : Int32)).2 (2 : Int32) (0 : Int32) (15 : Int32)).2 (1 : Int32) (0 : Int32) (2 : Int32)).1 (nb_T (nb_T (nb_T (nb_up hT hs)))) (nb_W (nb_W (nb_W hW))) (by rw [m_X9_readCommand, if_neg c_5, if_neg c_6, if_neg c_9, if_neg c_12, if_pos c_13, if_neg c_14, if_neg c_15]) H locs hP hD hS ls (lv_sub hl [4, 5, 3, 2, 1, 0] rfl)
      · skip
        refine lv_iconst (v := (-1 : Int32)) hx hb dX9_readCommand_264 (by decide) ?_
        refine lv_goto (tgt := 275) hx hb dX9_readCommand_265 (by decide) ?_
        refine lv_istore (lv' := [(5, .int (-1 : Int32)), (4, .int (m_X9_number (m_X9_number (mP' mo ((mP mo) + (1 : Int32))) (2 : Int32) (0 : Int32) (15 : Int32)).2 (2 : Int32) (0 : Int32) (15 : Int32)).1), (3, .int (m_X9_number (mP' mo ((mP mo) + (1 : Int32))) (2 : Int32) (0 : Int32) (15 : Int32)).1), (2, .int ((mT mo) (mP mo).toNatClampNeg)), (0, .ref a0), (1, .ref a3)]) hx hb dX9_readCommand_275 hl (by decide) rfl (fun ls hl => ?_)
        refine lv_goto (tgt := 304) hx hb dX9_readCommand_277 (by decide) ?_
        exact L_304  (m_X9_number (m_X9_number (mP' mo ((mP mo) + (1 : Int32))) (2 : Int32) (0 : Int32) (15 : Int32)).2 (2 : Int32) (0 : Int32) (15 : Int32)).2 (m_X9_number (mP' mo ((mP mo) + (1 : Int32))) (2 : Int32) (0 : Int32) (15 : Int32)).1 (m_X9_number (m_X9_number (mP' mo ((mP mo) + (1 : Int32))) (2 : Int32) (0 : Int32) (15 : Int32)).2 (2 : Int32) (0 : Int32) (15 : Int32)).1 (-1 : Int32) (nb_T (nb_T (nb_up hT hs))) (nb_W (nb_W hW)) (by rw [m_X9_readCommand, if_neg c_5, if_neg c_6, if_neg c_9, if_neg c_12, if_pos c_13, if_neg c_14, if_pos c_15]) H locs hP hD hS ls (lv_sub hl [4, 5, 3, 2, 1, 0] rfl)
    · skip
      refine lv_iconst (v := (-1 : Int32)) hx hb dX9_readCommand_244 (by decide) ?_
      refine lv_goto (tgt := 256) hx hb dX9_readCommand_245 (by decide) ?_
      refine lv_istore (lv' := [(4, .int (-1 : Int32)), (3, .int (m_X9_number (mP' mo ((mP mo) + (1 : Int32))) (2 : Int32) (0 : Int32) (15 : Int32)).1), (5, .int (0 : Int32)), (2, .int ((mT mo) (mP mo).toNatClampNeg)), (0, .ref a0), (1, .ref a3)]) hx hb dX9_readCommand_256 hl (by decide) rfl (fun ls hl => ?_)
      refine lv_iload hx hb dX9_readCommand_258 (lv_at hl 0 rfl) ?_
      refine lv_iconst (v := (-1 : Int32)) hx hb dX9_readCommand_260 (by decide) ?_
      refine lv_icmp_ne (tgt := 268) hx hb dX9_readCommand_261 (by decide) (fun c => absurd (by decide) c) (fun _ => ?_)
      refine lv_iconst (v := (-1 : Int32)) hx hb dX9_readCommand_264 (by decide) ?_
      refine lv_goto (tgt := 275) hx hb dX9_readCommand_265 (by decide) ?_
      refine lv_istore (lv' := [(5, .int (-1 : Int32)), (4, .int (-1 : Int32)), (3, .int (m_X9_number (mP' mo ((mP mo) + (1 : Int32))) (2 : Int32) (0 : Int32) (15 : Int32)).1), (2, .int ((mT mo) (mP mo).toNatClampNeg)), (0, .ref a0), (1, .ref a3)]) hx hb dX9_readCommand_275 hl (by decide) rfl (fun ls hl => ?_)
      refine lv_goto (tgt := 304) hx hb dX9_readCommand_277 (by decide) ?_
      exact L_304  (m_X9_number (mP' mo ((mP mo) + (1 : Int32))) (2 : Int32) (0 : Int32) (15 : Int32)).2 (m_X9_number (mP' mo ((mP mo) + (1 : Int32))) (2 : Int32) (0 : Int32) (15 : Int32)).1 (-1 : Int32) (-1 : Int32) (nb_T (nb_up hT hs)) (nb_W hW) (by rw [m_X9_readCommand, if_neg c_5, if_neg c_6, if_neg c_9, if_neg c_12, if_pos c_13, if_pos c_14]) H locs hP hD hS ls (lv_sub hl [4, 5, 3, 2, 1, 0] rfl)
  by_cases c_16 : ((mT mo) (mP mo).toNatClampNeg) = (120 : Int32)
  · refine lv_lookup (tgt := 199) hx hb dX9_readCommand_29 (by decide) (by rw [c_16]; first | done | rfl) (by decide) ?_
    refine lv_aload_n hx hb dX9_readCommand_199 rfl (lv_at hl 4 rfl) ?_
    refine lv_iconst (v := (2 : Int32)) hx hb dX9_readCommand_200 (by decide) ?_
    refine lv_iconst (v := (0 : Int32)) hx hb dX9_readCommand_201 (by decide) ?_
    refine lv_bipush (v := (15 : Int32)) hx hb dX9_readCommand_202 (by decide) ?_
    refine muV (A0 := A) (wc := (wMo cy a0 a1 a2 a3 a4 a5 a6 (mP' mo ((mP mo) + (1 : Int32))))) (As := [.int (2 : Int32), .int (0 : Int32), .int (15 : Int32)]) (rest := []) (c_X9_number l D cy a0 a1 a2 a3 a4 a5 a6 (mP' mo ((mP mo) + (1 : Int32))) (2 : Int32) (0 : Int32) (15 : Int32) (nb_up hT hs)) hCF gX9_readCommand_X9_number rfl hd_X9_number ⟨rfl, rfl, Nat.le_of_ble_eq_true rfl, Nat.le_of_ble_eq_true rfl⟩ hG hP hD hS hA [0, 1, 2, 3, 4, 5, 6] rfl c_Mo_Mo h_Mo (ci := 7) rfl rfl g_Mo_0 rfl hl.1 rfl (Nat.le_of_ble_eq_true rfl) dX9_readCommand_204 ⟨Nat.le_refl _, Nat.le_refl _⟩ (fun H locs hP hD hS => ?_)
    have hP : va_P D vwCl (wMo cy a0 a1 a2 a3 a4 a5 a6 (m_X9_number (mP' mo ((mP mo) + (1 : Int32))) (2 : Int32) (0 : Int32) (15 : Int32)).2) H := va_P_eq hP r_Mo_Mo
    have hD : va_D A (wMo cy a0 a1 a2 a3 a4 a5 a6 (m_X9_number (mP' mo ((mP mo) + (1 : Int32))) (2 : Int32) (0 : Int32) (15 : Int32)).2) := va_D_eq hD r_Mo_Mo
    refine lv_istore_n (lv' := [(3, .int (m_X9_number (mP' mo ((mP mo) + (1 : Int32))) (2 : Int32) (0 : Int32) (15 : Int32)).1), (5, .int (0 : Int32)), (4, .int (0 : Int32)), (2, .int ((mT mo) (mP mo).toNatClampNeg)), (0, .ref a0), (1, .ref a3)]) hx hb dX9_readCommand_207 rfl hl (by decide) rfl (fun ls hl => ?_)
    refine lv_iload_n hx hb dX9_readCommand_208 rfl (lv_at hl 0 rfl) ?_
    refine lv_iconst (v := (-1 : Int32)) hx hb dX9_readCommand_209 (by decide) ?_
    refine lv_icmp_ne (tgt := 217) hx hb dX9_readCommand_210 (by decide) (fun c_17 => ?_) (fun c_17 => ?_)
    · skip
      refine lv_aload_n hx hb dX9_readCommand_217 rfl (lv_at hl 4 rfl) ?_
      refine lv_iconst (v := (2 : Int32)) hx hb dX9_readCommand_218 (by decide) ?_
      refine lv_iconst (v := (0 : Int32)) hx hb dX9_readCommand_219 (by decide) ?_
      refine lv_bipush (v := (15 : Int32)) hx hb dX9_readCommand_220 (by decide) ?_
      refine muV (A0 := A) (wc := (wMo cy a0 a1 a2 a3 a4 a5 a6 (m_X9_number (mP' mo ((mP mo) + (1 : Int32))) (2 : Int32) (0 : Int32) (15 : Int32)).2)) (As := [.int (2 : Int32), .int (0 : Int32), .int (15 : Int32)]) (rest := []) (c_X9_number l D cy a0 a1 a2 a3 a4 a5 a6 (m_X9_number (mP' mo ((mP mo) + (1 : Int32))) (2 : Int32) (0 : Int32) (15 : Int32)).2 (2 : Int32) (0 : Int32) (15 : Int32) (nb_T (nb_up hT hs))) hCF gX9_readCommand_X9_number rfl hd_X9_number ⟨rfl, rfl, Nat.le_of_ble_eq_true rfl, Nat.le_of_ble_eq_true rfl⟩ hG hP hD hS hA [0, 1, 2, 3, 4, 5, 6] rfl c_Mo_Mo h_Mo (ci := 7) rfl rfl g_Mo_0 rfl hl.1 rfl (Nat.le_of_ble_eq_true rfl) dX9_readCommand_222 ⟨Nat.le_refl _, Nat.le_refl _⟩ (fun H locs hP hD hS => ?_)
      have hP : va_P D vwCl (wMo cy a0 a1 a2 a3 a4 a5 a6 (m_X9_number (m_X9_number (mP' mo ((mP mo) + (1 : Int32))) (2 : Int32) (0 : Int32) (15 : Int32)).2 (2 : Int32) (0 : Int32) (15 : Int32)).2) H := va_P_eq hP r_Mo_Mo
      have hD : va_D A (wMo cy a0 a1 a2 a3 a4 a5 a6 (m_X9_number (m_X9_number (mP' mo ((mP mo) + (1 : Int32))) (2 : Int32) (0 : Int32) (15 : Int32)).2 (2 : Int32) (0 : Int32) (15 : Int32)).2) := va_D_eq hD r_Mo_Mo
      refine lv_istore (lv' := [(4, .int (m_X9_number (m_X9_number (mP' mo ((mP mo) + (1 : Int32))) (2 : Int32) (0 : Int32) (15 : Int32)).2 (2 : Int32) (0 : Int32) (15 : Int32)).1), (3, .int (m_X9_number (mP' mo ((mP mo) + (1 : Int32))) (2 : Int32) (0 : Int32) (15 : Int32)).1), (5, .int (0 : Int32)), (2, .int ((mT mo) (mP mo).toNatClampNeg)), (0, .ref a0), (1, .ref a3)]) hx hb dX9_readCommand_225 hl (by decide) rfl (fun ls hl => ?_)
      refine lv_goto (tgt := 304) hx hb dX9_readCommand_227 (by decide) ?_
      exact L_304  (m_X9_number (m_X9_number (mP' mo ((mP mo) + (1 : Int32))) (2 : Int32) (0 : Int32) (15 : Int32)).2 (2 : Int32) (0 : Int32) (15 : Int32)).2 (m_X9_number (mP' mo ((mP mo) + (1 : Int32))) (2 : Int32) (0 : Int32) (15 : Int32)).1 (m_X9_number (m_X9_number (mP' mo ((mP mo) + (1 : Int32))) (2 : Int32) (0 : Int32) (15 : Int32)).2 (2 : Int32) (0 : Int32) (15 : Int32)).1 (0 : Int32) (nb_T (nb_T (nb_up hT hs))) (nb_W (nb_W hW)) (by rw [m_X9_readCommand, if_neg c_5, if_neg c_6, if_neg c_9, if_neg c_12, if_neg c_13, if_pos c_16, if_neg c_17]) H locs hP hD hS ls (lv_sub hl [4, 5, 3, 1, 0, 2] rfl)
    · skip
      refine lv_iconst (v := (-1 : Int32)) hx hb dX9_readCommand_213 (by decide) ?_
      refine lv_goto (tgt := 225) hx hb dX9_readCommand_214 (by decide) ?_
      refine lv_istore (lv' := [(4, .int (-1 : Int32)), (3, .int (m_X9_number (mP' mo ((mP mo) + (1 : Int32))) (2 : Int32) (0 : Int32) (15 : Int32)).1), (5, .int (0 : Int32)), (2, .int ((mT mo) (mP mo).toNatClampNeg)), (0, .ref a0), (1, .ref a3)]) hx hb dX9_readCommand_225 hl (by decide) rfl (fun ls hl => ?_)
      refine lv_goto (tgt := 304) hx hb dX9_readCommand_227 (by decide) ?_
      exact L_304  (m_X9_number (mP' mo ((mP mo) + (1 : Int32))) (2 : Int32) (0 : Int32) (15 : Int32)).2 (m_X9_number (mP' mo ((mP mo) + (1 : Int32))) (2 : Int32) (0 : Int32) (15 : Int32)).1 (-1 : Int32) (0 : Int32) (nb_T (nb_up hT hs)) (nb_W hW) (by rw [m_X9_readCommand, if_neg c_5, if_neg c_6, if_neg c_9, if_neg c_12, if_neg c_13, if_pos c_16, if_pos c_17]) H locs hP hD hS ls (lv_sub hl [4, 5, 3, 1, 0, 2] rfl)
  · refine lv_lookup (tgt := 292) hx hb dX9_readCommand_29 (by decide) ((lv_osw (k := 100) c_5 rfl).trans ((lv_osw (k := 108) c_6 rfl).trans ((lv_osw (k := 110) c_9 rfl).trans ((lv_osw (k := 114) c_12 rfl).trans ((lv_osw (k := 116) c_13 rfl).trans ((lv_osw (k := 120) c_16 rfl).trans (rfl))))))) (by first | rfl | decide) ?_
    refine lv_aload_n hx hb dX9_readCommand_292 rfl (lv_at hl 4 rfl) ?_
    refine lv_dup hx hb dX9_readCommand_293 rfl ?_
    refine va_get (D := D) (ci := 7) (v := .int ((mP mo) + (1 : Int32))) (C := RX9) (T := TX9) (N := 11) hx hb hts in_X9 hown hG.1 hP 0 g_Mo_0 rfl 9 (by decide) k_2 (fun _ h9 => h9) rfl dX9_readCommand_294 ?_
    refine lv_iconst (v := (1 : Int32)) hx hb dX9_readCommand_297 (by decide) ?_
    refine lv_isub hx hb dX9_readCommand_298 ?_
    refine va_put (D := D) (ci := 7) (v := .int (((mP mo) + (1 : Int32)) - (1 : Int32))) (ty := .int) (C := RX9) (T := TX9) (N := 11) hx hb hts in_X9 tyX9 tyX9_ok nmX9 hown hG.1 hP hD hS 0 g_Mo_0 rfl 9 (by decide) k_2 (fun _ h9 => h9) rfl (by decide +kernel) rfl rfl (Nat.le_of_ble_eq_true rfl) dX9_readCommand_299 (fun H locs hP hD hS => ?_)
    have hP : va_P D vwCl (wMo cy a0 a1 a2 a3 a4 a5 a6 (mP' mo (((mP mo) + (1 : Int32)) - (1 : Int32)))) H := va_P_eq hP s_Mo_0_9
    have hD : va_D A (wMo cy a0 a1 a2 a3 a4 a5 a6 (mP' mo (((mP mo) + (1 : Int32)) - (1 : Int32)))) := va_D_eq hD s_Mo_0_9
    refine lv_iconst (v := (0 : Int32)) hx hb dX9_readCommand_302 (by decide) ?_
    exact mu_zret hx hb hr hlocks rfl hP hS dX9_readCommand_303 (by rw [m_X9_readCommand, if_neg c_5, if_neg c_6, if_neg c_9, if_neg c_12, if_neg c_13, if_neg c_16]) (by rw [m_X9_readCommand, if_neg c_5, if_neg c_6, if_neg c_9, if_neg c_12, if_neg c_13, if_neg c_16])
theorem rc_cut (mo rr : MoT) (a b c : Int32) : mP (m_X9_readCommand_L304 mo rr a b c).2 = mP rr ∧ mZ (m_X9_readCommand_L304 mo rr a b c).2 = mZ rr ∧ (rOK (mW rr) → rOK (mW (m_X9_readCommand_L304 mo rr a b c).2)) := by
  unfold m_X9_readCommand_L304
  repeat' split
  all_goals first
    | exact ⟨rfl, rfl, fun h => h⟩
    | exact ⟨rfl, rfl, fun h => rok_does h⟩
/-- what a command that was read leaves: the place within the text, behind where it was if it was one -/
def rcOK (mo : MoT) (x : Int32 × MoT) : Prop := txtOK x.2 ∧ rOK (mW x.2) ∧ mZ x.2 = mZ mo ∧ (¬ x.1 = 0 → (mP mo).toInt + 1 ≤ (mP x.2).toInt)
theorem rcOK_ite {mo : MoT} {P : Prop} [Decidable P] {a b : Int32 × MoT} (ha : P → rcOK mo a) (hb : ¬ P → rcOK mo b) : rcOK mo (if P then a else b) := by
  by_cases h : P
  · rw [if_pos h]; exact ha h
  · rw [if_neg h]; exact hb h
theorem nb_sp {mo : MoT} (h : txtOK mo) (hs : ¬ mZ mo ≤ mP mo) : (mP mo + 1).toInt = (mP mo).toInt + 1 := by
  rw [i32_le] at hs
  have := h.1.1
  have := h.2.2
  rw [i32_add (by rw [i32_1]; omega) (by rw [i32_1]; omega), i32_1]
def rcK (mo rr : MoT) : Prop := txtOK rr ∧ rOK (mW rr) ∧ mZ rr = mZ mo ∧ (mP mo).toInt + 1 ≤ (mP rr).toInt
theorem rc_ok {mo : MoT} (hT : txtOK mo) (hs : ¬ mZ mo ≤ mP mo) (hW : rOK (mW mo)) : rcOK mo (m_X9_readCommand mo) := by
  have t1 : txtOK (mP' mo (mP mo + 1)) := nb_up hT hs
  have e1 := nb_sp hT hs
  have cut : ∀ (rr : MoT) (a b c : Int32), rcK mo rr → rcOK mo (m_X9_readCommand_L304 mo rr a b c) := by
    intro rr a b c ⟨h1, h2, h3, h4⟩
    obtain ⟨g1, g2, g3⟩ := rc_cut mo rr a b c
    refine ⟨⟨by rw [g1]; exact h1.1, by rw [g2]; exact h1.2⟩, g3 h2, by rw [g2, h3], fun _ => by rw [g1]; exact h4⟩
  have w1 : rOK (mW (mP' mo (mP mo + 1))) := hW
  have p1 : (mP mo).toInt + 1 ≤ (mP (mP' mo (mP mo + 1))).toInt := by rw [mP_mP', e1]; omega
  have k1 : rcK mo (mP' mo (mP mo + 1)) := ⟨t1, w1, rfl, p1⟩
  have num : ∀ (r : MoT) (x y z : Int32), rcK mo r → rcK mo (m_X9_number r x y z).2 := by
    intro r x y z ⟨h1, h2, h3, h4⟩
    exact ⟨nb_T h1, nb_W h2, by rw [nb_Z, h3], by have := nb_le (x1 := x) (x2 := y) (x3 := z) h1; omega⟩
  have fin : rcOK mo ((0 : Int32), mP' mo (mP mo + 1 - 1)) := by
    have e : mP mo + 1 - 1 = mP mo := by rw [Int32.add_sub_cancel]
    rw [e]
    exact ⟨hT, hW, rfl, fun h => absurd rfl h⟩
  unfold m_X9_readCommand
  exact rcOK_ite (fun c0 => cut _ _ _ _ (num _ _ _ _ k1)) (fun c0 => rcOK_ite (fun c1 => rcOK_ite (fun c2 => cut _ _ _ _ (num _ _ _ _ k1)) (fun c2 => rcOK_ite (fun c3 => cut _ _ _ _ (num _ _ _ _ (num _ _ _ _ k1))) (fun c3 => cut _ _ _ _ (num _ _ _ _ (num _ _ _ _ (num _ _ _ _ k1)))))) (fun c1 => rcOK_ite (fun c2 => rcOK_ite (fun c3 => cut _ _ _ _ (num _ _ _ _ k1)) (fun c3 => rcOK_ite (fun c4 => cut _ _ _ _ (num _ _ _ _ (num _ _ _ _ k1))) (fun c4 => cut _ _ _ _ (num _ _ _ _ (num _ _ _ _ (num _ _ _ _ k1)))))) (fun c2 => rcOK_ite (fun c3 => cut _ _ _ _ (num _ _ _ _ k1)) (fun c3 => rcOK_ite (fun c4 => rcOK_ite (fun c5 => cut _ _ _ _ (num _ _ _ _ k1)) (fun c5 => rcOK_ite (fun c6 => cut _ _ _ _ (num _ _ _ _ (num _ _ _ _ k1))) (fun c6 => cut _ _ _ _ (num _ _ _ _ (num _ _ _ _ (num _ _ _ _ k1)))))) (fun c4 => rcOK_ite (fun c5 => rcOK_ite (fun c6 => cut _ _ _ _ (num _ _ _ _ k1)) (fun c6 => cut _ _ _ _ (num _ _ _ _ (num _ _ _ _ k1)))) (fun c5 => fin))))))
theorem rt_dec {mo : MoT} {n : Nat} (h : rcOK mo (m_X9_readCommand mo)) (hs : ¬ mZ mo ≤ mP mo) (c : ¬ (m_X9_readCommand mo).1 = 0) (hm : ((mZ mo).toInt - (mP mo).toInt).toNat < n + 1) : ((mZ (m_X9_readCommand mo).2).toInt - (mP (m_X9_readCommand mo).2).toInt).toNat < n := by
  have h1 := h.2.2.2 c
  rw [h.2.2.1]
  rw [i32_le] at hs
  omega
theorem rt_init {z : MoT} {f : Nat → Int32} {a : Int32} (h : iv 0 120 (mZ z)) : ((mZ (mP' (mO' (mW' z f) a) 1)).toInt - (mP (mP' (mO' (mW' z f) a) 1)).toInt).toNat < 1000 := by
  show ((mZ z).toInt - (1 : Int32).toInt).toNat < 1000
  have := h.2
  rw [i32_1]
  omega
theorem rt_tx {z : MoT} {f : Nat → Int32} {a : Int32} (h : iv 0 120 (mZ z)) : txtOK (mP' (mO' (mW' z f) a) 1) := by
  have e : iv 0 120 (1 : Int32) := iv_wide (iv_lit (v := 1) (by decide)) (by decide)
  exact ⟨e, h⟩
theorem rt_ok3 {z : MoT} {f : Nat → Int32} {a b : Int32} (h : rOK f) : rOK (mW (mP' (mO' (mW' z f) a) b)) := h
theorem rokW_pr {a : Int32} {x : MoT} (h : rOK (mW x)) : rOK (mW ((a, x) : Int32 × MoT).2) := h
def m_X9_readText_L39 : Nat → MoT → Int32 × MoT
  | 0, r => (0, r)
  | nF + 1, r => if (mZ r) ≤ (mP r) then ((-1 : Int32), r) else if (m_X9_readCommand r).1 = (0 : Int32) then (mP (m_X9_readCommand r).2, (m_X9_readCommand r).2) else m_X9_readText_L39 nF (m_X9_readCommand r).2
def m_X9_readText (mo : MoT) : Int32 × MoT := if (mZ mo) = (0 : Int32) then ((0 : Int32), mP' (mO' (mW' mo (m_X9_begin (mW mo))) (0 : Int32)) (0 : Int32)) else if ((mT mo) (0 : Int32).toNatClampNeg) = (85 : Int32) then m_X9_readText_L39 1000 (mP' (mO' (mW' mo (m_X9_begin (mW mo))) (0 : Int32)) (1 : Int32)) else ((0 : Int32), mP' (mO' (mW' mo (m_X9_begin (mW mo))) (0 : Int32)) (0 : Int32))
theorem hd_X9_readText : yX9_readText.cls = RX9 ∧ yX9_readText.cls ≠ "java/lang/invoke/MethodHandle" ∧ yX9_readText.cls ≠ "java/lang/invoke/VarHandle" ∧ (parseMethodDescriptor yX9_readText.desc).map (fun d => d.parameters.length) = some 1 := by decide +kernel
set_option maxHeartbeats 8000000 in
set_option maxRecDepth 20000 in
theorem c_X9_readText (l : Launch) (D : va_G) (cy : Nat → ClassId) (a0 a1 a2 a3 a4 a5 a6 : Nat) (mo : MoT) (hZ : iv 0 120 (mZ mo)) : MU l D cy yX9_readText wsX9_readText ({ frames := 6, cells := 0, slots := 0, locals := 140 } : Room) (wMo cy a0 a1 a2 a3 a4 a5 a6 mo) (wMo cy a0 a1 a2 a3 a4 a5 a6 (m_X9_readText mo).2) [.ref a0, .ref a3] (m_X9_readText mo).1 := by
  refine MU.body (by decide) rfl (Nat.le_of_ble_eq_true rfl) ?_
  intro p e s m below meth c hx hb hml hr hts hown hlocks hP hG ls hl A hD hA hS
  have hl : lv_has ls 2 [(0, .ref a0), (1, .ref a3)] := hl
  have hCF : CallFix p m c cX9_readText 2 s ([.ref a0, .ref a3] : List Value).toArray wsX9_readText RX9 := ⟨hx, hb, hml, hown, hts⟩
  have in_X9 : ∀ w ∈ u_ws RX9 TX9 11, w ∈ wsX9_readText := fun _ h => List.mem_cons_of_mem _ (List.mem_append_right _ h)
  have k_0 := hts (Cond.fieldLink RX9 119 "SparePoolModel" "spot" "I") (List.mem_of_getElem? (i := 2) rfl)
  have k_1 := hts (Cond.fieldLink RX9 113 "SparePoolModel" "size" "I") (List.mem_of_getElem? (i := 3) rfl)
  have k_2 := hts (Cond.fieldLink RX9 182 "SparePoolModel" "out" "I") (List.mem_of_getElem? (i := 1) rfl)
  have k_3 := hts (Cond.fieldLink RX9 7 "SparePoolModel" "text" "[I") (List.mem_of_getElem? (i := 4) rfl)
  have hP : va_P D vwCl (wMo cy a0 a1 a2 a3 a4 a5 a6 mo) s.heap := hP
  have L_39 : ∀ (nF : Nat) (r : MoT) , txtOK r → rOK (mW r) → ((mZ r).toInt - (mP r).toInt).toNat < nF → m_X9_readText_L39 nF r = (m_X9_readText mo) → ∀ (H : Heap) (locs : List Loc), va_P D vwCl (wMo cy a0 a1 a2 a3 a4 a5 a6 r) H → va_D A (wMo cy a0 a1 a2 a3 a4 a5 a6 r) → va_S A s.heap H locs → ∀ ls : Array Slot, lv_has ls 2 [(0, .ref a0), (1, .ref a3)] → W p l e ({ frames := 6, cells := 0, slots := 0, locals := 140 } : Room) s m ([.ref a0, .ref a3] : List Value).toArray below meth c H locs 0 0 (MQ below (va_Qi (fun v_ (_ : Unit) => v_ = (m_X9_readText mo).1) (fun _ t => va_P D vwCl (wMo cy a0 a1 a2 a3 a4 a5 a6 (m_X9_readText mo).2) t.heap) A) ([.ref a0, .ref a3] : List Value).toArray s 0 0 A) (F0 m 39 ls []) := by
    intro nF
    induction nF with
    | zero => intro r  hT hW hm; exact absurd hm (Nat.not_lt_zero _)
    | succ nF ih =>
      intro r  hT hW hm hQ H locs hP hD hS ls hl
      refine lv_aload_n hx hb dX9_readText_39 rfl (lv_at hl 0 rfl) ?_
      refine va_get (D := D) (ci := 7) (v := .int (mP r)) (C := RX9) (T := TX9) (N := 11) hx hb hts in_X9 hown hG.1 hP 0 g_Mo_0 rfl 9 (by decide) k_0 (fun _ h9 => h9) rfl dX9_readText_40 ?_
      refine lv_aload_n hx hb dX9_readText_43 rfl (lv_at hl 0 rfl) ?_
      refine va_get (D := D) (ci := 7) (v := .int (mZ r)) (C := RX9) (T := TX9) (N := 11) hx hb hts in_X9 hown hG.1 hP 0 g_Mo_0 rfl 2 (by decide) k_1 (fun _ h9 => h9) rfl dX9_readText_44 ?_
      refine lv_icmp_ge (tgt := 63) hx hb dX9_readText_47 (by decide) (fun c_1 => ?_) (fun c_1 => ?_)
      · skip
        refine lv_iconst (v := (-1 : Int32)) hx hb dX9_readText_63 (by decide) ?_
        exact mu_iret hx hb hr hlocks hP hS dX9_readText_64 (by rw [← hQ, m_X9_readText_L39, if_pos c_1]) (by rw [← hQ, m_X9_readText_L39, if_pos c_1])
      · skip
        refine lv_aload_n hx hb dX9_readText_50 rfl (lv_at hl 0 rfl) ?_
        refine lv_aload_n hx hb dX9_readText_51 rfl (lv_at hl 1 rfl) ?_
        refine muV (A0 := A) (wc := (wMo cy a0 a1 a2 a3 a4 a5 a6 r)) (As := [.ref a3]) (rest := []) (c_X9_readCommand l D cy a0 a1 a2 a3 a4 a5 a6 r hT c_1 hW) hCF gX9_readText_X9_readCommand rfl hd_X9_readCommand ⟨rfl, rfl, Nat.le_of_ble_eq_true rfl, Nat.le_of_ble_eq_true rfl⟩ hG hP hD hS hA [0, 1, 2, 3, 4, 5, 6] rfl c_Mo_Mo h_Mo (ci := 7) rfl rfl g_Mo_0 rfl hl.1 rfl (Nat.le_of_ble_eq_true rfl) dX9_readText_52 ⟨Nat.le_refl _, Nat.le_refl _⟩ (fun H locs hP hD hS => ?_)
        have hP : va_P D vwCl (wMo cy a0 a1 a2 a3 a4 a5 a6 (m_X9_readCommand r).2) H := va_P_eq hP r_Mo_Mo
        have hD : va_D A (wMo cy a0 a1 a2 a3 a4 a5 a6 (m_X9_readCommand r).2) := va_D_eq hD r_Mo_Mo
        refine lv_if_ne (tgt := 39) hx hb dX9_readText_55 (by decide) (fun c_2 => ?_) (fun c_2 => ?_)
        · skip
          exact ih  (m_X9_readCommand r).2 (rc_ok hT c_1 hW).1 (rc_ok hT c_1 hW).2.1 (rt_dec (rc_ok hT c_1 hW) c_1 c_2 hm) (by rw [← hQ, m_X9_readText_L39, if_neg c_1, if_neg c_2]) H locs hP hD hS ls (lv_sub hl [0, 1] rfl)
        · skip
          refine lv_aload_n hx hb dX9_readText_58 rfl (lv_at hl 0 rfl) ?_
          refine va_get (D := D) (ci := 7) (v := .int (mP (m_X9_readCommand r).2)) (C := RX9) (T := TX9) (N := 11) hx hb hts in_X9 hown hG.1 hP 0 g_Mo_0 rfl 9 (by decide) k_0 (fun _ h9 => h9) rfl dX9_readText_59 ?_
          exact mu_iret hx hb hr hlocks hP hS dX9_readText_62 (by rw [← hQ, m_X9_readText_L39, if_neg c_1, if_pos c_2]) (by rw [← hQ, m_X9_readText_L39, if_neg c_1, if_pos c_2])
  refine lv_aload_n hx hb dX9_readText_0 rfl (lv_at hl 1 rfl) ?_
  refine mvS (A0 := A) (wc := (wAr cy a3 (mW mo))) (As := [.ref a3]) (rest := []) (c_X9_begin l D cy a3 (mW mo)) hCF gX9_readText_X9_begin rfl hd_X9_begin ⟨rfl, rfl, Nat.le_of_ble_eq_true rfl, Nat.le_of_ble_eq_true rfl⟩ hG hP hD hS hA [3] rfl c_Mo_Ar3 h_Ar rfl hl.1 rfl (Nat.le_of_ble_eq_true rfl) dX9_readText_1 ⟨Nat.le_refl _, Nat.le_refl _⟩ (fun H locs hP hD hS => ?_)
  have hP : va_P D vwCl (wMo cy a0 a1 a2 a3 a4 a5 a6 (mW' mo (m_X9_begin (mW mo)))) H := va_P_eq hP r_Mo_Ar3
  have hD : va_D A (wMo cy a0 a1 a2 a3 a4 a5 a6 (mW' mo (m_X9_begin (mW mo)))) := va_D_eq hD r_Mo_Ar3
  refine lv_aload_n hx hb dX9_readText_4 rfl (lv_at hl 0 rfl) ?_
  refine lv_iconst (v := (0 : Int32)) hx hb dX9_readText_5 (by decide) ?_
  refine va_put (D := D) (ci := 7) (v := .int (0 : Int32)) (ty := .int) (C := RX9) (T := TX9) (N := 11) hx hb hts in_X9 tyX9 tyX9_ok nmX9 hown hG.1 hP hD hS 0 g_Mo_0 rfl 10 (by decide) k_2 (fun _ h9 => h9) rfl (by decide +kernel) rfl rfl (Nat.le_of_ble_eq_true rfl) dX9_readText_6 (fun H locs hP hD hS => ?_)
  have hP : va_P D vwCl (wMo cy a0 a1 a2 a3 a4 a5 a6 (mO' (mW' mo (m_X9_begin (mW mo))) (0 : Int32))) H := va_P_eq hP s_Mo_0_10
  have hD : va_D A (wMo cy a0 a1 a2 a3 a4 a5 a6 (mO' (mW' mo (m_X9_begin (mW mo))) (0 : Int32))) := va_D_eq hD s_Mo_0_10
  refine lv_aload_n hx hb dX9_readText_9 rfl (lv_at hl 0 rfl) ?_
  refine lv_iconst (v := (0 : Int32)) hx hb dX9_readText_10 (by decide) ?_
  refine va_put (D := D) (ci := 7) (v := .int (0 : Int32)) (ty := .int) (C := RX9) (T := TX9) (N := 11) hx hb hts in_X9 tyX9 tyX9_ok nmX9 hown hG.1 hP hD hS 0 g_Mo_0 rfl 9 (by decide) k_0 (fun _ h9 => h9) rfl (by decide +kernel) rfl rfl (Nat.le_of_ble_eq_true rfl) dX9_readText_11 (fun H locs hP hD hS => ?_)
  have hP : va_P D vwCl (wMo cy a0 a1 a2 a3 a4 a5 a6 (mP' (mO' (mW' mo (m_X9_begin (mW mo))) (0 : Int32)) (0 : Int32))) H := va_P_eq hP s_Mo_0_9
  have hD : va_D A (wMo cy a0 a1 a2 a3 a4 a5 a6 (mP' (mO' (mW' mo (m_X9_begin (mW mo))) (0 : Int32)) (0 : Int32))) := va_D_eq hD s_Mo_0_9
  refine lv_aload_n hx hb dX9_readText_14 rfl (lv_at hl 0 rfl) ?_
  refine va_get (D := D) (ci := 7) (v := .int (mZ mo)) (C := RX9) (T := TX9) (N := 11) hx hb hts in_X9 hown hG.1 hP 0 g_Mo_0 rfl 2 (by decide) k_1 (fun _ h9 => h9) rfl dX9_readText_15 ?_
  refine lv_if_eq (tgt := 32) hx hb dX9_readText_18 (by decide) (fun c_3 => ?_) (fun c_3 => ?_)
  · skip
    refine lv_iconst (v := (0 : Int32)) hx hb dX9_readText_32 (by decide) ?_
    exact mu_iret hx hb hr hlocks hP hS dX9_readText_33 (by rw [m_X9_readText, if_pos c_3]) (by rw [m_X9_readText, if_pos c_3])
  · skip
    refine lv_aload_n hx hb dX9_readText_21 rfl (lv_at hl 0 rfl) ?_
    refine va_get (D := D) (ci := 7) (v := .ref a1) (C := RX9) (T := TX9) (N := 11) hx hb hts in_X9 hown hG.1 hP 0 g_Mo_0 rfl 1 (by decide) k_3 (fun _ h9 => h9) rfl dX9_readText_22 ?_
    refine lv_iconst (v := (0 : Int32)) hx hb dX9_readText_25 (by decide) ?_
    refine va_iald hx hb hG.1 hP 1 0 (n := 120) (f := (mT mo)) g_Mo_1 rfl (bd_of (by decide) (by decide)) dX9_readText_26 ?_
    refine lv_bipush (v := (85 : Int32)) hx hb dX9_readText_27 (by decide) ?_
    refine lv_icmp_eq (tgt := 34) hx hb dX9_readText_29 (by decide) (fun c_4 => ?_) (fun c_4 => ?_)
    · skip
      refine lv_aload_n hx hb dX9_readText_34 rfl (lv_at hl 0 rfl) ?_
      refine lv_iconst (v := (1 : Int32)) hx hb dX9_readText_35 (by decide) ?_
      refine va_put (D := D) (ci := 7) (v := .int (1 : Int32)) (ty := .int) (C := RX9) (T := TX9) (N := 11) hx hb hts in_X9 tyX9 tyX9_ok nmX9 hown hG.1 hP hD hS 0 g_Mo_0 rfl 9 (by decide) k_0 (fun _ h9 => h9) rfl (by decide +kernel) rfl rfl (Nat.le_of_ble_eq_true rfl) dX9_readText_36 (fun H locs hP hD hS => ?_)
      have hP : va_P D vwCl (wMo cy a0 a1 a2 a3 a4 a5 a6 (mP' (mO' (mW' mo (m_X9_begin (mW mo))) (0 : Int32)) (1 : Int32))) H := va_P_eq hP s_Mo_0_9
      have hD : va_D A (wMo cy a0 a1 a2 a3 a4 a5 a6 (mP' (mO' (mW' mo (m_X9_begin (mW mo))) (0 : Int32)) (1 : Int32))) := va_D_eq hD s_Mo_0_9
      exact L_39 1000 (mP' (mO' (mW' mo (m_X9_begin (mW mo))) (0 : Int32)) (1 : Int32)) (rt_tx hZ) (rt_ok3 (bg_rok _)) (rt_init hZ) (by rw [m_X9_readText, if_neg c_3, if_pos c_4]) H locs hP hD hS ls (lv_sub hl [0, 1] rfl)
    · skip
      refine lv_iconst (v := (0 : Int32)) hx hb dX9_readText_32 (by decide) ?_
      exact mu_iret hx hb hr hlocks hP hS dX9_readText_33 (by rw [m_X9_readText, if_neg c_3, if_neg c_4]) (by rw [m_X9_readText, if_neg c_3, if_neg c_4])
theorem rt_LW (nF : Nat) : ∀ (r : MoT), txtOK r → rOK (mW r) → rOK (mW (m_X9_readText_L39 nF r).2) := by
  induction nF with
  | zero => intro r _ h; exact h
  | succ nF ih =>
    intro r h1 h2
    rw [m_X9_readText_L39]
    exact rokW2_ite (fun _ => rokW_pr h2) (fun c1 => rokW2_ite (fun _ => rokW_pr (rc_ok h1 c1 h2).2.1) (fun _ => ih _ (rc_ok h1 c1 h2).1 (rc_ok h1 c1 h2).2.1))
theorem rt_W {mo : MoT} (hZ : iv 0 120 (mZ mo)) : rOK (mW (m_X9_readText mo).2) := by
  unfold m_X9_readText
  exact rokW2_ite (fun _ => rokW_pr (rt_ok3 (bg_rok _))) (fun _ => rokW2_ite (fun _ => rt_LW _ _ (rt_tx hZ) (rt_ok3 (bg_rok _))) (fun _ => rokW_pr (rt_ok3 (bg_rok _))))
def m_X9_errorPosition (mo : MoT) : Int32 × MoT := ((m_X9_readText (mR' mo (0 : Int32))).1, (m_X9_readText (mR' mo (0 : Int32))).2)
theorem hd_X9_errorPosition : yX9_errorPosition.cls = RX9 ∧ yX9_errorPosition.cls ≠ "java/lang/invoke/MethodHandle" ∧ yX9_errorPosition.cls ≠ "java/lang/invoke/VarHandle" ∧ (parseMethodDescriptor yX9_errorPosition.desc).map (fun d => d.parameters.length) = some 0 := by decide +kernel
set_option maxHeartbeats 8000000 in
set_option maxRecDepth 20000 in
theorem c_X9_errorPosition (l : Launch) (D : va_G) (cy : Nat → ClassId) (a0 a1 a2 a3 a4 a5 a6 : Nat) (mo : MoT) (hZ : iv 0 120 (mZ mo)) : MU l D cy yX9_errorPosition wsX9_errorPosition ({ frames := 7, cells := 0, slots := 0, locals := 161 } : Room) (wMo cy a0 a1 a2 a3 a4 a5 a6 mo) (wMo cy a0 a1 a2 a3 a4 a5 a6 (m_X9_errorPosition mo).2) [.ref a0] (m_X9_errorPosition mo).1 := by
  refine MU.body (by decide) rfl (Nat.le_of_ble_eq_true rfl) ?_
  intro p e s m below meth c hx hb hml hr hts hown hlocks hP hG ls hl A hD hA hS
  have hl : lv_has ls 1 [(0, .ref a0)] := hl
  have hCF : CallFix p m c cX9_errorPosition 1 s ([.ref a0] : List Value).toArray wsX9_errorPosition RX9 := ⟨hx, hb, hml, hown, hts⟩
  have in_X9 : ∀ w ∈ u_ws RX9 TX9 11, w ∈ wsX9_errorPosition := fun _ h => List.mem_cons_of_mem _ (List.mem_append_right _ h)
  have k_0 := hts (Cond.fieldLink RX9 33 "SparePoolModel" "refusal" "I") (List.mem_of_getElem? (i := 1) rfl)
  have k_1 := hts (Cond.fieldLink RX9 16 "SparePoolModel" "trial" "[I") (List.mem_of_getElem? (i := 2) rfl)
  have hP : va_P D vwCl (wMo cy a0 a1 a2 a3 a4 a5 a6 mo) s.heap := hP
  refine lv_aload_n hx hb dX9_errorPosition_0 rfl (lv_at hl 0 rfl) ?_
  refine lv_iconst (v := (0 : Int32)) hx hb dX9_errorPosition_1 (by decide) ?_
  refine va_put (D := D) (ci := 7) (v := .int (0 : Int32)) (ty := .int) (C := RX9) (T := TX9) (N := 11) hx hb hts in_X9 tyX9 tyX9_ok nmX9 hown hG.1 hP hD hS 0 g_Mo_0 rfl 0 (by decide) k_0 (fun _ h9 => h9) rfl (by decide +kernel) rfl rfl (Nat.le_of_ble_eq_true rfl) dX9_errorPosition_2 (fun H locs hP hD hS => ?_)
  have hP : va_P D vwCl (wMo cy a0 a1 a2 a3 a4 a5 a6 (mR' mo (0 : Int32))) H := va_P_eq hP s_Mo_0_0
  have hD : va_D A (wMo cy a0 a1 a2 a3 a4 a5 a6 (mR' mo (0 : Int32))) := va_D_eq hD s_Mo_0_0
  refine lv_aload_n hx hb dX9_errorPosition_5 rfl (lv_at hl 0 rfl) ?_
  refine lv_aload_n hx hb dX9_errorPosition_6 rfl (lv_at hl 0 rfl) ?_
  refine va_get (D := D) (ci := 7) (v := .ref a3) (C := RX9) (T := TX9) (N := 11) hx hb hts in_X9 hown hG.1 hP 0 g_Mo_0 rfl 4 (by decide) k_1 (fun _ h9 => h9) rfl dX9_errorPosition_7 ?_
  refine muV (A0 := A) (wc := (wMo cy a0 a1 a2 a3 a4 a5 a6 (mR' mo (0 : Int32)))) (As := [.ref a3]) (rest := []) (c_X9_readText l D cy a0 a1 a2 a3 a4 a5 a6 (mR' mo (0 : Int32)) hZ) hCF gX9_errorPosition_X9_readText rfl hd_X9_readText ⟨rfl, rfl, Nat.le_of_ble_eq_true rfl, Nat.le_of_ble_eq_true rfl⟩ hG hP hD hS hA [0, 1, 2, 3, 4, 5, 6] rfl c_Mo_Mo h_Mo (ci := 7) rfl rfl g_Mo_0 rfl hl.1 rfl (Nat.le_of_ble_eq_true rfl) dX9_errorPosition_10 ⟨Nat.le_refl _, Nat.le_refl _⟩ (fun H locs hP hD hS => ?_)
  have hP : va_P D vwCl (wMo cy a0 a1 a2 a3 a4 a5 a6 (m_X9_readText (mR' mo (0 : Int32))).2) H := va_P_eq hP r_Mo_Mo
  have hD : va_D A (wMo cy a0 a1 a2 a3 a4 a5 a6 (m_X9_readText (mR' mo (0 : Int32))).2) := va_D_eq hD r_Mo_Mo
  exact mu_iret hx hb hr hlocks hP hS dX9_errorPosition_13 (by rw [m_X9_errorPosition]) (by rw [m_X9_errorPosition])
def m_X9_load (mo : MoT) : Int32 × MoT := if (m_X9_readText mo).1 = (-1 : Int32) then (mO (m_X9_readText mo).2, mI' (mA' (mN' (mR' (m_X9_readText mo).2 (0 : Int32)) (m_X9_copyState (mW (m_X9_readText mo).2) (mN (m_X9_readText mo).2) (0 : Int32) (0 : Int32))) (0 : Int32)) (upd (upd (mI (m_X9_readText mo).2) (0 : Int32).toNatClampNeg (0 : Int32)) (1 : Int32).toNatClampNeg (0 : Int32))) else ((0 : Int32), mR' (m_X9_readText mo).2 (1 : Int32))
theorem hd_X9_load : yX9_load.cls = RX9 ∧ yX9_load.cls ≠ "java/lang/invoke/MethodHandle" ∧ yX9_load.cls ≠ "java/lang/invoke/VarHandle" ∧ (parseMethodDescriptor yX9_load.desc).map (fun d => d.parameters.length) = some 0 := by decide +kernel
set_option maxHeartbeats 8000000 in
set_option maxRecDepth 20000 in
theorem c_X9_load (l : Launch) (D : va_G) (cy : Nat → ClassId) (a0 a1 a2 a3 a4 a5 a6 : Nat) (mo : MoT) (hZ : iv 0 120 (mZ mo)) : MU l D cy yX9_load wsX9_load ({ frames := 7, cells := 0, slots := 0, locals := 161 } : Room) (wMo cy a0 a1 a2 a3 a4 a5 a6 mo) (wMo cy a0 a1 a2 a3 a4 a5 a6 (m_X9_load mo).2) [.ref a0] (m_X9_load mo).1 := by
  refine MU.body (by decide) rfl (Nat.le_of_ble_eq_true rfl) ?_
  intro p e s m below meth c hx hb hml hr hts hown hlocks hP hG ls hl A hD hA hS
  have hl : lv_has ls 1 [(0, .ref a0)] := hl
  have hCF : CallFix p m c cX9_load 1 s ([.ref a0] : List Value).toArray wsX9_load RX9 := ⟨hx, hb, hml, hown, hts⟩
  have in_X9 : ∀ w ∈ u_ws RX9 TX9 11, w ∈ wsX9_load := fun _ h => List.mem_cons_of_mem _ (List.mem_append_right _ h)
  have k_0 := hts (Cond.fieldLink RX9 16 "SparePoolModel" "trial" "[I") (List.mem_of_getElem? (i := 1) rfl)
  have k_1 := hts (Cond.fieldLink RX9 13 "SparePoolModel" "now" "[I") (List.mem_of_getElem? (i := 2) rfl)
  have k_2 := hts (Cond.fieldLink RX9 201 "SparePoolModel" "acts" "I") (List.mem_of_getElem? (i := 3) rfl)
  have k_3 := hts (Cond.fieldLink RX9 25 "SparePoolModel" "isKept" "[Z") (List.mem_of_getElem? (i := 4) rfl)
  have k_4 := hts (Cond.fieldLink RX9 182 "SparePoolModel" "out" "I") (List.mem_of_getElem? (i := 5) rfl)
  have hP : va_P D vwCl (wMo cy a0 a1 a2 a3 a4 a5 a6 mo) s.heap := hP
  refine lv_aload_n hx hb dX9_load_0 rfl (lv_at hl 0 rfl) ?_
  refine lv_aload_n hx hb dX9_load_1 rfl (lv_at hl 0 rfl) ?_
  refine lv_aload_n hx hb dX9_load_2 rfl (lv_at hl 0 rfl) ?_
  refine va_get (D := D) (ci := 7) (v := .ref a3) (C := RX9) (T := TX9) (N := 11) hx hb hts in_X9 hown hG.1 hP 0 g_Mo_0 rfl 4 (by decide) k_0 (fun _ h9 => h9) rfl dX9_load_3 ?_
  refine muV (A0 := A) (wc := (wMo cy a0 a1 a2 a3 a4 a5 a6 mo)) (As := [.ref a3]) (rest := [.ref a0]) (c_X9_readText l D cy a0 a1 a2 a3 a4 a5 a6 mo hZ) hCF gX9_load_X9_readText rfl hd_X9_readText ⟨rfl, rfl, Nat.le_of_ble_eq_true rfl, Nat.le_of_ble_eq_true rfl⟩ hG hP hD hS hA [0, 1, 2, 3, 4, 5, 6] rfl c_Mo_Mo h_Mo (ci := 7) rfl rfl g_Mo_0 rfl hl.1 rfl (Nat.le_of_ble_eq_true rfl) dX9_load_6 ⟨Nat.le_refl _, Nat.le_refl _⟩ (fun H locs hP hD hS => ?_)
  have hP : va_P D vwCl (wMo cy a0 a1 a2 a3 a4 a5 a6 (m_X9_readText mo).2) H := va_P_eq hP r_Mo_Mo
  have hD : va_D A (wMo cy a0 a1 a2 a3 a4 a5 a6 (m_X9_readText mo).2) := va_D_eq hD r_Mo_Mo
  refine lv_iconst (v := (-1 : Int32)) hx hb dX9_load_9 (by decide) ?_
  refine lv_icmp_ne (tgt := 17) hx hb dX9_load_10 (by decide) (fun c_1 => ?_) (fun c_1 => ?_)
  · skip
    refine lv_iconst (v := (1 : Int32)) hx hb dX9_load_17 (by decide) ?_
    refine muV (A0 := A) (wc := (wMo cy a0 a1 a2 a3 a4 a5 a6 (m_X9_readText mo).2)) (As := [.int (1 : Int32)]) (rest := []) (c_X9_refused l D cy a0 a1 a2 a3 a4 a5 a6 (m_X9_readText mo).2 (1 : Int32)) hCF gX9_load_X9_refused rfl hd_X9_refused ⟨rfl, rfl, Nat.le_of_ble_eq_true rfl, Nat.le_of_ble_eq_true rfl⟩ hG hP hD hS hA [0, 1, 2, 3, 4, 5, 6] rfl c_Mo_Mo h_Mo (ci := 7) rfl rfl g_Mo_0 rfl hl.1 rfl (Nat.le_of_ble_eq_true rfl) dX9_load_18 ⟨Nat.le_refl _, Nat.le_refl _⟩ (fun H locs hP hD hS => ?_)
    have hP : va_P D vwCl (wMo cy a0 a1 a2 a3 a4 a5 a6 (mR' (m_X9_readText mo).2 (1 : Int32))) H := va_P_eq hP r_Mo_Mo
    have hD : va_D A (wMo cy a0 a1 a2 a3 a4 a5 a6 (mR' (m_X9_readText mo).2 (1 : Int32))) := va_D_eq hD r_Mo_Mo
    refine lv_if_eq (tgt := 26) hx hb dX9_load_21 (by decide) (fun c => absurd c (rf_lit1 _)) (fun _ => ?_)
    refine lv_iconst (v := (0 : Int32)) hx hb dX9_load_24 (by decide) ?_
    exact mu_iret hx hb hr hlocks hP hS dX9_load_25 (by rw [m_X9_load, if_neg c_1]) (by rw [m_X9_load, if_neg c_1])
  · skip
    refine lv_iconst (v := (0 : Int32)) hx hb dX9_load_13 (by decide) ?_
    refine lv_goto (tgt := 18) hx hb dX9_load_14 (by decide) ?_
    refine muV (A0 := A) (wc := (wMo cy a0 a1 a2 a3 a4 a5 a6 (m_X9_readText mo).2)) (As := [.int (0 : Int32)]) (rest := []) (c_X9_refused l D cy a0 a1 a2 a3 a4 a5 a6 (m_X9_readText mo).2 (0 : Int32)) hCF gX9_load_X9_refused rfl hd_X9_refused ⟨rfl, rfl, Nat.le_of_ble_eq_true rfl, Nat.le_of_ble_eq_true rfl⟩ hG hP hD hS hA [0, 1, 2, 3, 4, 5, 6] rfl c_Mo_Mo h_Mo (ci := 7) rfl rfl g_Mo_0 rfl hl.1 rfl (Nat.le_of_ble_eq_true rfl) dX9_load_18 ⟨Nat.le_refl _, Nat.le_refl _⟩ (fun H locs hP hD hS => ?_)
    have hP : va_P D vwCl (wMo cy a0 a1 a2 a3 a4 a5 a6 (mR' (m_X9_readText mo).2 (0 : Int32))) H := va_P_eq hP r_Mo_Mo
    have hD : va_D A (wMo cy a0 a1 a2 a3 a4 a5 a6 (mR' (m_X9_readText mo).2 (0 : Int32))) := va_D_eq hD r_Mo_Mo
    refine lv_if_eq (tgt := 26) hx hb dX9_load_21 (by decide) (fun _ => ?_) (fun c => absurd (rf_lit0 _) c)
    refine lv_aload_n hx hb dX9_load_26 rfl (lv_at hl 0 rfl) ?_
    refine va_get (D := D) (ci := 7) (v := .ref a3) (C := RX9) (T := TX9) (N := 11) hx hb hts in_X9 hown hG.1 hP 0 g_Mo_0 rfl 4 (by decide) k_0 (fun _ h9 => h9) rfl dX9_load_27 ?_
    refine lv_iconst (v := (0 : Int32)) hx hb dX9_load_30 (by decide) ?_
    refine lv_aload_n hx hb dX9_load_31 rfl (lv_at hl 0 rfl) ?_
    refine va_get (D := D) (ci := 7) (v := .ref a2) (C := RX9) (T := TX9) (N := 11) hx hb hts in_X9 hown hG.1 hP 0 g_Mo_0 rfl 3 (by decide) k_1 (fun _ h9 => h9) rfl dX9_load_32 ?_
    refine lv_iconst (v := (0 : Int32)) hx hb dX9_load_35 (by decide) ?_
    refine mvS (A0 := A) (wc := (wCp cy a3 a2 383 383 (mW (m_X9_readText mo).2) (mN (m_X9_readText mo).2))) (As := [.ref a3, .int (0 : Int32), .ref a2, .int (0 : Int32)]) (rest := []) (c_X9_copyState l D cy a3 a2 383 383 (mW (m_X9_readText mo).2) (mN (m_X9_readText mo).2) (0 : Int32) (0 : Int32) (cp_iv (iv_lit (v := 0) (by decide)) (by decide)) (cp_iv (iv_lit (v := 0) (by decide)) (by decide))) hCF gX9_load_X9_copyState rfl hd_X9_copyState ⟨rfl, rfl, Nat.le_of_ble_eq_true rfl, Nat.le_of_ble_eq_true rfl⟩ hG hP hD hS hA [3, 2] rfl c_Mo_Cp32 h_Cp rfl hl.1 rfl (Nat.le_of_ble_eq_true rfl) dX9_load_36 ⟨Nat.le_refl _, Nat.le_refl _⟩ (fun H locs hP hD hS => ?_)
    have hP : va_P D vwCl (wMo cy a0 a1 a2 a3 a4 a5 a6 (mN' (mR' (m_X9_readText mo).2 (0 : Int32)) (m_X9_copyState (mW (m_X9_readText mo).2) (mN (m_X9_readText mo).2) (0 : Int32) (0 : Int32)))) H := va_P_eq hP r_Mo_Cp32
    have hD : va_D A (wMo cy a0 a1 a2 a3 a4 a5 a6 (mN' (mR' (m_X9_readText mo).2 (0 : Int32)) (m_X9_copyState (mW (m_X9_readText mo).2) (mN (m_X9_readText mo).2) (0 : Int32) (0 : Int32)))) := va_D_eq hD r_Mo_Cp32
    refine lv_aload_n hx hb dX9_load_39 rfl (lv_at hl 0 rfl) ?_
    refine lv_iconst (v := (0 : Int32)) hx hb dX9_load_40 (by decide) ?_
    refine va_put (D := D) (ci := 7) (v := .int (0 : Int32)) (ty := .int) (C := RX9) (T := TX9) (N := 11) hx hb hts in_X9 tyX9 tyX9_ok nmX9 hown hG.1 hP hD hS 0 g_Mo_0 rfl 6 (by decide) k_2 (fun _ h9 => h9) rfl (by decide +kernel) rfl rfl (Nat.le_of_ble_eq_true rfl) dX9_load_41 (fun H locs hP hD hS => ?_)
    have hP : va_P D vwCl (wMo cy a0 a1 a2 a3 a4 a5 a6 (mA' (mN' (mR' (m_X9_readText mo).2 (0 : Int32)) (m_X9_copyState (mW (m_X9_readText mo).2) (mN (m_X9_readText mo).2) (0 : Int32) (0 : Int32))) (0 : Int32))) H := va_P_eq hP s_Mo_0_6
    have hD : va_D A (wMo cy a0 a1 a2 a3 a4 a5 a6 (mA' (mN' (mR' (m_X9_readText mo).2 (0 : Int32)) (m_X9_copyState (mW (m_X9_readText mo).2) (mN (m_X9_readText mo).2) (0 : Int32) (0 : Int32))) (0 : Int32))) := va_D_eq hD s_Mo_0_6
    refine lv_aload_n hx hb dX9_load_44 rfl (lv_at hl 0 rfl) ?_
    refine va_get (D := D) (ci := 7) (v := .ref a6) (C := RX9) (T := TX9) (N := 11) hx hb hts in_X9 hown hG.1 hP 0 g_Mo_0 rfl 8 (by decide) k_3 (fun _ h9 => h9) rfl dX9_load_45 ?_
    refine lv_iconst (v := (0 : Int32)) hx hb dX9_load_48 (by decide) ?_
    refine lv_iconst (v := (0 : Int32)) hx hb dX9_load_49 (by decide) ?_
    refine va_zast hx hb hG.1 hP hD hS 6 1 (n := 2) (f := (mI (m_X9_readText mo).2)) g_Mo_6 rfl (bd_of (by decide) (by decide)) dX9_load_50 (fun H locs hP hD hS => ?_)
    have hP : va_P D vwCl (wMo cy a0 a1 a2 a3 a4 a5 a6 (mI' (mA' (mN' (mR' (m_X9_readText mo).2 (0 : Int32)) (m_X9_copyState (mW (m_X9_readText mo).2) (mN (m_X9_readText mo).2) (0 : Int32) (0 : Int32))) (0 : Int32)) (upd (mI (m_X9_readText mo).2) (0 : Int32).toNatClampNeg (0 : Int32)))) H := va_P_eq hP s_Mo_6
    have hD : va_D A (wMo cy a0 a1 a2 a3 a4 a5 a6 (mI' (mA' (mN' (mR' (m_X9_readText mo).2 (0 : Int32)) (m_X9_copyState (mW (m_X9_readText mo).2) (mN (m_X9_readText mo).2) (0 : Int32) (0 : Int32))) (0 : Int32)) (upd (mI (m_X9_readText mo).2) (0 : Int32).toNatClampNeg (0 : Int32)))) := va_D_eq hD s_Mo_6
    refine lv_aload_n hx hb dX9_load_51 rfl (lv_at hl 0 rfl) ?_
    refine va_get (D := D) (ci := 7) (v := .ref a6) (C := RX9) (T := TX9) (N := 11) hx hb hts in_X9 hown hG.1 hP 0 g_Mo_0 rfl 8 (by decide) k_3 (fun _ h9 => h9) rfl dX9_load_52 ?_
    refine lv_iconst (v := (1 : Int32)) hx hb dX9_load_55 (by decide) ?_
    refine lv_iconst (v := (0 : Int32)) hx hb dX9_load_56 (by decide) ?_
    refine va_zast hx hb hG.1 hP hD hS 6 1 (n := 2) (f := (upd (mI (m_X9_readText mo).2) (0 : Int32).toNatClampNeg (0 : Int32))) g_Mo_6 rfl (bd_of (by decide) (by decide)) dX9_load_57 (fun H locs hP hD hS => ?_)
    have hP : va_P D vwCl (wMo cy a0 a1 a2 a3 a4 a5 a6 (mI' (mA' (mN' (mR' (m_X9_readText mo).2 (0 : Int32)) (m_X9_copyState (mW (m_X9_readText mo).2) (mN (m_X9_readText mo).2) (0 : Int32) (0 : Int32))) (0 : Int32)) (upd (upd (mI (m_X9_readText mo).2) (0 : Int32).toNatClampNeg (0 : Int32)) (1 : Int32).toNatClampNeg (0 : Int32)))) H := va_P_eq hP s_Mo_6
    have hD : va_D A (wMo cy a0 a1 a2 a3 a4 a5 a6 (mI' (mA' (mN' (mR' (m_X9_readText mo).2 (0 : Int32)) (m_X9_copyState (mW (m_X9_readText mo).2) (mN (m_X9_readText mo).2) (0 : Int32) (0 : Int32))) (0 : Int32)) (upd (upd (mI (m_X9_readText mo).2) (0 : Int32).toNatClampNeg (0 : Int32)) (1 : Int32).toNatClampNeg (0 : Int32)))) := va_D_eq hD s_Mo_6
    refine lv_aload_n hx hb dX9_load_58 rfl (lv_at hl 0 rfl) ?_
    refine va_get (D := D) (ci := 7) (v := .int (mO (m_X9_readText mo).2)) (C := RX9) (T := TX9) (N := 11) hx hb hts in_X9 hown hG.1 hP 0 g_Mo_0 rfl 10 (by decide) k_4 (fun _ h9 => h9) rfl dX9_load_59 ?_
    exact mu_iret hx hb hr hlocks hP hS dX9_load_62 (by rw [m_X9_load, if_pos c_1]) (by rw [m_X9_load, if_pos c_1])
def m_X9_inDebt_L60 : Nat → MoT → Int32 → Int32 → Int32 × MoT
  | 0, r, _, _ => (0, r)
  | nF + 1, r, se, h => if (5 : Int32) ≤ h then (se, r) else if (0 : Int32) ≤ (((mW r) ((88 : Int32) + h).toNatClampNeg) - (((m_X9_partsOwed (mW r) h (-1 : Int32)) - (m_X9_partsOwed (mW r) (-1 : Int32) h)) * ((mW r) (4 : Int32).toNatClampNeg))) then m_X9_inDebt_L60 nF r (se ||| (0 : Int32)) (h + (1 : Int32)) else m_X9_inDebt_L60 nF r (se ||| ((1 : Int32) <<< (h &&& (31 : Int32)))) (h + (1 : Int32))
def m_X9_inDebt_L20 : Nat → MoT → Int32 → Int32 × MoT
  | 0, r, _ => (0, r)
  | nF + 1, r, u => if ((mW r) (1 : Int32).toNatClampNeg) ≤ u then m_X9_inDebt_L60 100 r (0 : Int32) (0 : Int32) else if (m_X9_isFree (mW r) u) = (0 : Int32) then m_X9_inDebt_L20 nF (mW' r (m_X9_bringOn (mW r) u).2) (u + (1 : Int32)) else m_X9_inDebt_L20 nF r (u + (1 : Int32))
def m_X9_inDebt (mo : MoT) : Int32 × MoT := m_X9_inDebt_L20 100 (mW' (mR' mo (0 : Int32)) (m_X9_copyState (mN mo) (mW mo) (0 : Int32) (0 : Int32))) (0 : Int32)
theorem hd_X9_inDebt : yX9_inDebt.cls = RX9 ∧ yX9_inDebt.cls ≠ "java/lang/invoke/MethodHandle" ∧ yX9_inDebt.cls ≠ "java/lang/invoke/VarHandle" ∧ (parseMethodDescriptor yX9_inDebt.desc).map (fun d => d.parameters.length) = some 0 := by decide +kernel
set_option maxHeartbeats 8000000 in
set_option maxRecDepth 20000 in
theorem c_X9_inDebt (l : Launch) (D : va_G) (cy : Nat → ClassId) (a0 a1 a2 a3 a4 a5 a6 : Nat) (mo : MoT) (hM : rOK (mN mo)) : MU l D cy yX9_inDebt wsX9_inDebt ({ frames := 4, cells := 0, slots := 0, locals := 87 } : Room) (wMo cy a0 a1 a2 a3 a4 a5 a6 mo) (wMo cy a0 a1 a2 a3 a4 a5 a6 (m_X9_inDebt mo).2) [.ref a0] (m_X9_inDebt mo).1 := by
  refine MU.body (by decide) rfl (Nat.le_of_ble_eq_true rfl) ?_
  intro p e s m below meth c hx hb hml hr hts hown hlocks hP hG ls hl A hD hA hS
  have hl : lv_has ls 4 [(0, .ref a0)] := hl
  have hCF : CallFix p m c cX9_inDebt 4 s ([.ref a0] : List Value).toArray wsX9_inDebt RX9 := ⟨hx, hb, hml, hown, hts⟩
  have in_X9 : ∀ w ∈ u_ws RX9 TX9 11, w ∈ wsX9_inDebt := fun _ h => List.mem_cons_of_mem _ (List.mem_append_right _ h)
  have k_0 := hts (Cond.fieldLink RX9 16 "SparePoolModel" "trial" "[I") (List.mem_of_getElem? (i := 3) rfl)
  have k_1 := hts (Cond.fieldLink RX9 33 "SparePoolModel" "refusal" "I") (List.mem_of_getElem? (i := 1) rfl)
  have k_2 := hts (Cond.fieldLink RX9 13 "SparePoolModel" "now" "[I") (List.mem_of_getElem? (i := 2) rfl)
  have hP : va_P D vwCl (wMo cy a0 a1 a2 a3 a4 a5 a6 mo) s.heap := hP
  have L_60 : ∀ (nF : Nat) (r : MoT) (se : Int32) (h : Int32), 0 ≤ h.toInt → ((5 : Int32).toInt - h.toInt).toNat < nF → m_X9_inDebt_L60 nF r se h = (m_X9_inDebt mo) → ∀ (H : Heap) (locs : List Loc), va_P D vwCl (wMo cy a0 a1 a2 a3 a4 a5 a6 r) H → va_D A (wMo cy a0 a1 a2 a3 a4 a5 a6 r) → va_S A s.heap H locs → ∀ ls : Array Slot, lv_has ls 4 [(0, .ref a0), (1, .int se), (2, .int h)] → W p l e ({ frames := 4, cells := 0, slots := 0, locals := 87 } : Room) s m ([.ref a0] : List Value).toArray below meth c H locs 0 0 (MQ below (va_Qi (fun v_ (_ : Unit) => v_ = (m_X9_inDebt mo).1) (fun _ t => va_P D vwCl (wMo cy a0 a1 a2 a3 a4 a5 a6 (m_X9_inDebt mo).2) t.heap) A) ([.ref a0] : List Value).toArray s 0 0 A) (F0 m 60 ls []) := by
    intro nF
    induction nF with
    | zero => intro r se h h0 hm; exact absurd hm (Nat.not_lt_zero _)
    | succ nF ih =>
      intro r se h h0 hm hQ H locs hP hD hS ls hl
      refine lv_iload_n hx hb dX9_inDebt_60 rfl (lv_at hl 2 rfl) ?_
      refine lv_iconst (v := (5 : Int32)) hx hb dX9_inDebt_61 (by decide) ?_
      refine lv_icmp_ge (tgt := 122) hx hb dX9_inDebt_62 (by decide) (fun c_1 => ?_) (fun c_1 => ?_)
      · skip
        refine lv_iload_n hx hb dX9_inDebt_122 rfl (lv_at hl 1 rfl) ?_
        exact mu_iret hx hb hr hlocks hP hS dX9_inDebt_123 (by rw [← hQ, m_X9_inDebt_L60, if_pos c_1]) (by rw [← hQ, m_X9_inDebt_L60, if_pos c_1])
      · skip
        refine lv_aload_n hx hb dX9_inDebt_65 rfl (lv_at hl 0 rfl) ?_
        refine va_get (D := D) (ci := 7) (v := .ref a3) (C := RX9) (T := TX9) (N := 11) hx hb hts in_X9 hown hG.1 hP 0 g_Mo_0 rfl 4 (by decide) k_0 (fun _ h9 => h9) rfl dX9_inDebt_66 ?_
        refine lv_iload_n hx hb dX9_inDebt_69 rfl (lv_at hl 2 rfl) ?_
        refine lv_iconst (v := (-1 : Int32)) hx hb dX9_inDebt_70 (by decide) ?_
        refine roS (wc := (wAr cy a3 (mW r))) (As := [.ref a3, .int h, .int (-1 : Int32)]) (rest := []) (c_X9_partsOwed l D cy a3 (mW r) h (-1 : Int32)) hCF gX9_inDebt_X9_partsOwed rfl hd_X9_partsOwed ⟨rfl, rfl, Nat.le_of_ble_eq_true rfl, Nat.le_of_ble_eq_true rfl⟩ hG (hP.sub (ws' := (wAr cy a3 (mW r))) [3] u_Mo_Ar3) rfl hl.1 rfl (Nat.le_of_ble_eq_true rfl) dX9_inDebt_71 ⟨Nat.le_refl _, Nat.le_refl _⟩ ?_
        refine lv_aload_n hx hb dX9_inDebt_74 rfl (lv_at hl 0 rfl) ?_
        refine va_get (D := D) (ci := 7) (v := .ref a3) (C := RX9) (T := TX9) (N := 11) hx hb hts in_X9 hown hG.1 hP 0 g_Mo_0 rfl 4 (by decide) k_0 (fun _ h9 => h9) rfl dX9_inDebt_75 ?_
        refine lv_iconst (v := (-1 : Int32)) hx hb dX9_inDebt_78 (by decide) ?_
        refine lv_iload_n hx hb dX9_inDebt_79 rfl (lv_at hl 2 rfl) ?_
        refine roS (wc := (wAr cy a3 (mW r))) (As := [.ref a3, .int (-1 : Int32), .int h]) (rest := [.int (m_X9_partsOwed (mW r) h (-1 : Int32))]) (c_X9_partsOwed l D cy a3 (mW r) (-1 : Int32) h) hCF gX9_inDebt_X9_partsOwed rfl hd_X9_partsOwed ⟨rfl, rfl, Nat.le_of_ble_eq_true rfl, Nat.le_of_ble_eq_true rfl⟩ hG (hP.sub (ws' := (wAr cy a3 (mW r))) [3] u_Mo_Ar3) rfl hl.1 rfl (Nat.le_of_ble_eq_true rfl) dX9_inDebt_80 ⟨Nat.le_refl _, Nat.le_refl _⟩ ?_
        refine lv_isub hx hb dX9_inDebt_83 ?_
        refine lv_istore_n (lv' := [(3, .int ((m_X9_partsOwed (mW r) h (-1 : Int32)) - (m_X9_partsOwed (mW r) (-1 : Int32) h))), (0, .ref a0), (1, .int se), (2, .int h)]) hx hb dX9_inDebt_84 rfl hl (by decide) rfl (fun ls hl => ?_)
        refine lv_iload_n hx hb dX9_inDebt_85 rfl (lv_at hl 2 rfl) ?_
        refine lv_aload_n hx hb dX9_inDebt_86 rfl (lv_at hl 1 rfl) ?_
        refine va_get (D := D) (ci := 7) (v := .ref a3) (C := RX9) (T := TX9) (N := 11) hx hb hts in_X9 hown hG.1 hP 0 g_Mo_0 rfl 4 (by decide) k_0 (fun _ h9 => h9) rfl dX9_inDebt_87 ?_
        refine lv_bipush (v := (88 : Int32)) hx hb dX9_inDebt_90 (by decide) ?_
        refine lv_iload_n hx hb dX9_inDebt_92 rfl (lv_at hl 3 rfl) ?_
        refine lv_iadd hx hb dX9_inDebt_93 ?_
        refine va_iald hx hb hG.1 hP 3 0 (n := 383) (f := (mW r)) g_Mo_3 rfl (iv_in (iv_add (l := 88) (h := 92) (iv_lit (v := 88) (by decide)) (iv_loop (M := 5) (h := 4) h0 c_1 ((by decide)) (by decide)) (by decide)) (by decide) (by decide)) dX9_inDebt_94 ?_
        refine lv_iload_n hx hb dX9_inDebt_95 rfl (lv_at hl 0 rfl) ?_
        refine lv_aload_n hx hb dX9_inDebt_96 rfl (lv_at hl 1 rfl) ?_
        refine va_get (D := D) (ci := 7) (v := .ref a3) (C := RX9) (T := TX9) (N := 11) hx hb hts in_X9 hown hG.1 hP 0 g_Mo_0 rfl 4 (by decide) k_0 (fun _ h9 => h9) rfl dX9_inDebt_97 ?_
        refine lv_iconst (v := (4 : Int32)) hx hb dX9_inDebt_100 (by decide) ?_
        refine va_iald hx hb hG.1 hP 3 0 (n := 383) (f := (mW r)) g_Mo_3 rfl (bd_of (by decide) (by decide)) dX9_inDebt_101 ?_
        refine lv_imul hx hb dX9_inDebt_102 ?_
        refine lv_isub hx hb dX9_inDebt_103 ?_
        refine lv_if_ge (tgt := 113) hx hb dX9_inDebt_104 (by decide) (fun c_2 => ?_) (fun c_2 => ?_)
        · skip
          refine lv_iconst (v := (0 : Int32)) hx hb dX9_inDebt_113 (by decide) ?_
          refine lv_ior hx hb dX9_inDebt_114 ?_
          refine lv_istore_n (lv' := [(1, .int (se ||| (0 : Int32))), (3, .int ((m_X9_partsOwed (mW r) h (-1 : Int32)) - (m_X9_partsOwed (mW r) (-1 : Int32) h))), (0, .ref a0), (2, .int h)]) hx hb dX9_inDebt_115 rfl hl (by decide) rfl (fun ls hl => ?_)
          refine lv_iinc (v := (h + (1 : Int32))) (lv' := [(2, .int (h + (1 : Int32))), (1, .int (se ||| (0 : Int32))), (3, .int ((m_X9_partsOwed (mW r) h (-1 : Int32)) - (m_X9_partsOwed (mW r) (-1 : Int32) h))), (0, .ref a0)]) hx hb dX9_inDebt_116 hl (k := 3) rfl rfl (by decide) rfl (fun ls hl => ?_)
          refine lv_goto (tgt := 60) hx hb dX9_inDebt_119 (by decide) ?_
          exact ih  r (se ||| (0 : Int32)) (h + (1 : Int32)) (lp_up h0 c_1) (lp_dec h0 c_1 hm) (by rw [← hQ, m_X9_inDebt_L60, if_neg c_1, if_pos c_2]) H locs hP hD hS ls (lv_sub hl [3, 1, 0] rfl)
        · skip
          refine lv_iconst (v := (1 : Int32)) hx hb dX9_inDebt_107 (by decide) ?_
          refine lv_iload_n hx hb dX9_inDebt_108 rfl (lv_at hl 3 rfl) ?_
          refine lv_ishl hx hb dX9_inDebt_109 ?_
          refine lv_goto (tgt := 114) hx hb dX9_inDebt_110 (by decide) ?_
          refine lv_ior hx hb dX9_inDebt_114 ?_
          refine lv_istore_n (lv' := [(1, .int (se ||| ((1 : Int32) <<< (h &&& (31 : Int32))))), (3, .int ((m_X9_partsOwed (mW r) h (-1 : Int32)) - (m_X9_partsOwed (mW r) (-1 : Int32) h))), (0, .ref a0), (2, .int h)]) hx hb dX9_inDebt_115 rfl hl (by decide) rfl (fun ls hl => ?_)
          refine lv_iinc (v := (h + (1 : Int32))) (lv' := [(2, .int (h + (1 : Int32))), (1, .int (se ||| ((1 : Int32) <<< (h &&& (31 : Int32))))), (3, .int ((m_X9_partsOwed (mW r) h (-1 : Int32)) - (m_X9_partsOwed (mW r) (-1 : Int32) h))), (0, .ref a0)]) hx hb dX9_inDebt_116 hl (k := 3) rfl rfl (by decide) rfl (fun ls hl => ?_)
          refine lv_goto (tgt := 60) hx hb dX9_inDebt_119 (by decide) ?_
          exact ih  r (se ||| ((1 : Int32) <<< (h &&& (31 : Int32)))) (h + (1 : Int32)) (lp_up h0 c_1) (lp_dec h0 c_1 hm) (by rw [← hQ, m_X9_inDebt_L60, if_neg c_1, if_neg c_2]) H locs hP hD hS ls (lv_sub hl [3, 1, 0] rfl)
  have L_20 : ∀ (nF : Nat) (r : MoT) (u : Int32), 0 ≤ u.toInt → rOK (mW r) → ((16 : Int32).toInt - u.toInt).toNat < nF → m_X9_inDebt_L20 nF r u = (m_X9_inDebt mo) → ∀ (H : Heap) (locs : List Loc), va_P D vwCl (wMo cy a0 a1 a2 a3 a4 a5 a6 r) H → va_D A (wMo cy a0 a1 a2 a3 a4 a5 a6 r) → va_S A s.heap H locs → ∀ ls : Array Slot, lv_has ls 4 [(0, .ref a0), (1, .int u)] → W p l e ({ frames := 4, cells := 0, slots := 0, locals := 87 } : Room) s m ([.ref a0] : List Value).toArray below meth c H locs 0 0 (MQ below (va_Qi (fun v_ (_ : Unit) => v_ = (m_X9_inDebt mo).1) (fun _ t => va_P D vwCl (wMo cy a0 a1 a2 a3 a4 a5 a6 (m_X9_inDebt mo).2) t.heap) A) ([.ref a0] : List Value).toArray s 0 0 A) (F0 m 20 ls []) := by
    intro nF
    induction nF with
    | zero => intro r u h0 hW hm; exact absurd hm (Nat.not_lt_zero _)
    | succ nF ih =>
      intro r u h0 hW hm hQ H locs hP hD hS ls hl
      refine lv_iload_n hx hb dX9_inDebt_20 rfl (lv_at hl 1 rfl) ?_
      refine lv_aload_n hx hb dX9_inDebt_21 rfl (lv_at hl 0 rfl) ?_
      refine va_get (D := D) (ci := 7) (v := .ref a3) (C := RX9) (T := TX9) (N := 11) hx hb hts in_X9 hown hG.1 hP 0 g_Mo_0 rfl 4 (by decide) k_0 (fun _ h9 => h9) rfl dX9_inDebt_22 ?_
      refine lv_iconst (v := (1 : Int32)) hx hb dX9_inDebt_25 (by decide) ?_
      refine va_iald hx hb hG.1 hP 3 0 (n := 383) (f := (mW r)) g_Mo_3 rfl (bd_of (by decide) (by decide)) dX9_inDebt_26 ?_
      refine lv_icmp_ge (tgt := 56) hx hb dX9_inDebt_27 (by decide) (fun c_3 => ?_) (fun c_3 => ?_)
      · skip
        refine lv_iconst (v := (0 : Int32)) hx hb dX9_inDebt_56 (by decide) ?_
        refine lv_istore_n (lv' := [(1, .int (0 : Int32)), (0, .ref a0)]) hx hb dX9_inDebt_57 rfl hl (by decide) rfl (fun ls hl => ?_)
        refine lv_iconst (v := (0 : Int32)) hx hb dX9_inDebt_58 (by decide) ?_
        refine lv_istore_n (lv' := [(2, .int (0 : Int32)), (1, .int (0 : Int32)), (0, .ref a0)]) hx hb dX9_inDebt_59 rfl hl (by decide) rfl (fun ls hl => ?_)
        exact L_60 100 r (0 : Int32) (0 : Int32) (by decide) (lp_init (M := 5) (by decide) (by decide)) (by rw [← hQ, m_X9_inDebt_L20, if_pos c_3]) H locs hP hD hS ls (lv_sub hl [2, 1, 0] rfl)
      · skip
        refine lv_aload_n hx hb dX9_inDebt_30 rfl (lv_at hl 0 rfl) ?_
        refine va_get (D := D) (ci := 7) (v := .ref a3) (C := RX9) (T := TX9) (N := 11) hx hb hts in_X9 hown hG.1 hP 0 g_Mo_0 rfl 4 (by decide) k_0 (fun _ h9 => h9) rfl dX9_inDebt_31 ?_
        refine lv_iload_n hx hb dX9_inDebt_34 rfl (lv_at hl 1 rfl) ?_
        refine roS (wc := (wAr cy a3 (mW r))) (As := [.ref a3, .int u]) (rest := []) (c_X9_isFree l D cy a3 (mW r) u (iv_loop (M := 16) (h := 15) h0 c_3 (rk_many hW).2 (by decide))) hCF gX9_inDebt_X9_isFree rfl hd_X9_isFree ⟨rfl, rfl, Nat.le_of_ble_eq_true rfl, Nat.le_of_ble_eq_true rfl⟩ hG (hP.sub (ws' := (wAr cy a3 (mW r))) [3] u_Mo_Ar3) rfl hl.1 rfl (Nat.le_of_ble_eq_true rfl) dX9_inDebt_35 ⟨Nat.le_refl _, Nat.le_refl _⟩ ?_
        refine lv_if_ne (tgt := 50) hx hb dX9_inDebt_38 (by decide) (fun c_4 => ?_) (fun c_4 => ?_)
        · skip
          refine lv_iinc (v := (u + (1 : Int32))) (lv' := [(1, .int (u + (1 : Int32))), (0, .ref a0)]) hx hb dX9_inDebt_50 hl (k := 1) rfl rfl (by decide) rfl (fun ls hl => ?_)
          refine lv_goto (tgt := 20) hx hb dX9_inDebt_53 (by decide) ?_
          exact ih  r (u + (1 : Int32)) (lp_up h0 c_3) hW (lp_dec16 h0 c_3 (rk_many hW).2 hm) (by rw [← hQ, m_X9_inDebt_L20, if_neg c_3, if_neg c_4]) H locs hP hD hS ls (lv_sub hl [1, 0] rfl)
        · skip
          refine lv_aload_n hx hb dX9_inDebt_41 rfl (lv_at hl 0 rfl) ?_
          refine va_get (D := D) (ci := 7) (v := .ref a3) (C := RX9) (T := TX9) (N := 11) hx hb hts in_X9 hown hG.1 hP 0 g_Mo_0 rfl 4 (by decide) k_0 (fun _ h9 => h9) rfl dX9_inDebt_42 ?_
          refine lv_iload_n hx hb dX9_inDebt_45 rfl (lv_at hl 1 rfl) ?_
          refine muS (A0 := A) (wc := (wAr cy a3 (mW r))) (As := [.ref a3, .int u]) (rest := []) (c_X9_bringOn l D cy a3 (mW r) u hW (iv_loop (M := 16) (h := 15) h0 c_3 (rk_many hW).2 (by decide))) hCF gX9_inDebt_X9_bringOn rfl hd_X9_bringOn ⟨rfl, rfl, Nat.le_of_ble_eq_true rfl, Nat.le_of_ble_eq_true rfl⟩ hG hP hD hS hA [3] rfl c_Mo_Ar3 h_Ar rfl hl.1 rfl (Nat.le_of_ble_eq_true rfl) dX9_inDebt_46 ⟨Nat.le_refl _, Nat.le_refl _⟩ (fun H locs hP hD hS => ?_)
          have hP : va_P D vwCl (wMo cy a0 a1 a2 a3 a4 a5 a6 (mW' r (m_X9_bringOn (mW r) u).2)) H := va_P_eq hP r_Mo_Ar3
          have hD : va_D A (wMo cy a0 a1 a2 a3 a4 a5 a6 (mW' r (m_X9_bringOn (mW r) u).2)) := va_D_eq hD r_Mo_Ar3
          refine lv_pop hx hb dX9_inDebt_49 rfl ?_
          refine lv_iinc (v := (u + (1 : Int32))) (lv' := [(1, .int (u + (1 : Int32))), (0, .ref a0)]) hx hb dX9_inDebt_50 hl (k := 1) rfl rfl (by decide) rfl (fun ls hl => ?_)
          refine lv_goto (tgt := 20) hx hb dX9_inDebt_53 (by decide) ?_
          exact ih  (mW' r (m_X9_bringOn (mW r) u).2) (u + (1 : Int32)) (lp_up h0 c_3) (rok_bring hW (iv_loop (M := 16) (h := 15) h0 c_3 (rk_many hW).2 (by decide))) (lp_dec16 h0 c_3 (rk_many hW).2 hm) (by rw [← hQ, m_X9_inDebt_L20, if_neg c_3, if_pos c_4]) H locs hP hD hS ls (lv_sub hl [1, 0] rfl)
  refine lv_aload_n hx hb dX9_inDebt_0 rfl (lv_at hl 0 rfl) ?_
  refine lv_iconst (v := (0 : Int32)) hx hb dX9_inDebt_1 (by decide) ?_
  refine va_put (D := D) (ci := 7) (v := .int (0 : Int32)) (ty := .int) (C := RX9) (T := TX9) (N := 11) hx hb hts in_X9 tyX9 tyX9_ok nmX9 hown hG.1 hP hD hS 0 g_Mo_0 rfl 0 (by decide) k_1 (fun _ h9 => h9) rfl (by decide +kernel) rfl rfl (Nat.le_of_ble_eq_true rfl) dX9_inDebt_2 (fun H locs hP hD hS => ?_)
  have hP : va_P D vwCl (wMo cy a0 a1 a2 a3 a4 a5 a6 (mR' mo (0 : Int32))) H := va_P_eq hP s_Mo_0_0
  have hD : va_D A (wMo cy a0 a1 a2 a3 a4 a5 a6 (mR' mo (0 : Int32))) := va_D_eq hD s_Mo_0_0
  refine lv_aload_n hx hb dX9_inDebt_5 rfl (lv_at hl 0 rfl) ?_
  refine va_get (D := D) (ci := 7) (v := .ref a2) (C := RX9) (T := TX9) (N := 11) hx hb hts in_X9 hown hG.1 hP 0 g_Mo_0 rfl 3 (by decide) k_2 (fun _ h9 => h9) rfl dX9_inDebt_6 ?_
  refine lv_iconst (v := (0 : Int32)) hx hb dX9_inDebt_9 (by decide) ?_
  refine lv_aload_n hx hb dX9_inDebt_10 rfl (lv_at hl 0 rfl) ?_
  refine va_get (D := D) (ci := 7) (v := .ref a3) (C := RX9) (T := TX9) (N := 11) hx hb hts in_X9 hown hG.1 hP 0 g_Mo_0 rfl 4 (by decide) k_0 (fun _ h9 => h9) rfl dX9_inDebt_11 ?_
  refine lv_iconst (v := (0 : Int32)) hx hb dX9_inDebt_14 (by decide) ?_
  refine mvS (A0 := A) (wc := (wCp cy a2 a3 383 383 (mN mo) (mW mo))) (As := [.ref a2, .int (0 : Int32), .ref a3, .int (0 : Int32)]) (rest := []) (c_X9_copyState l D cy a2 a3 383 383 (mN mo) (mW mo) (0 : Int32) (0 : Int32) (cp_iv (iv_lit (v := 0) (by decide)) (by decide)) (cp_iv (iv_lit (v := 0) (by decide)) (by decide))) hCF gX9_inDebt_X9_copyState rfl hd_X9_copyState ⟨rfl, rfl, Nat.le_of_ble_eq_true rfl, Nat.le_of_ble_eq_true rfl⟩ hG hP hD hS hA [2, 3] rfl c_Mo_Cp23 h_Cp rfl hl.1 rfl (Nat.le_of_ble_eq_true rfl) dX9_inDebt_15 ⟨Nat.le_refl _, Nat.le_refl _⟩ (fun H locs hP hD hS => ?_)
  have hP : va_P D vwCl (wMo cy a0 a1 a2 a3 a4 a5 a6 (mW' (mR' mo (0 : Int32)) (m_X9_copyState (mN mo) (mW mo) (0 : Int32) (0 : Int32)))) H := va_P_eq hP r_Mo_Cp23
  have hD : va_D A (wMo cy a0 a1 a2 a3 a4 a5 a6 (mW' (mR' mo (0 : Int32)) (m_X9_copyState (mN mo) (mW mo) (0 : Int32) (0 : Int32)))) := va_D_eq hD r_Mo_Cp23
  refine lv_iconst (v := (0 : Int32)) hx hb dX9_inDebt_18 (by decide) ?_
  refine lv_istore_n (lv' := [(1, .int (0 : Int32)), (0, .ref a0)]) hx hb dX9_inDebt_19 rfl hl (by decide) rfl (fun ls hl => ?_)
  exact L_20 100 (mW' (mR' mo (0 : Int32)) (m_X9_copyState (mN mo) (mW mo) (0 : Int32) (0 : Int32))) (0 : Int32) (by decide) (cp_rok hM) (by decide) (by rw [m_X9_inDebt]) H locs hP hD hS ls (lv_sub hl [1, 0] rfl)
