/-! helpers of the law -/
set_option maxRecDepth 20000 in
theorem c_L_tryComplete (l : Launch) (hl0 : l.stackTraces = false) (D : va_G) (cy : Nat → ClassId) (t : FxA) (xa sa sb tr na : Nat → Nat) (ka : Nat → Nat → Nat) {z : SpT} (hz : OKz z) (x1 : Int32) (x2 : Int32) : HW 8 1 6 200 l D cy t yL_tryComplete wsL_tryComplete (wSp cy xa sa sb tr na ka z) (wSp cy xa sa sb tr na ka (m_X8_complete z x1 x2).2.2) [.ref (xa 0), .int x1, .int x2] (kV (m_X8_complete z x1 x2)) := by
  refine HW.bodyW (hh := [(0, 6, 7, 13)]) (by decide) rfl (Nat.le_of_ble_eq_true rfl) ?_
  intro p e s m below meth c hx hb hml htb hr hts hown hlocks hP hG ls hl A hD hA hS hF
  have hl : lv_has ls 4 [(0, .ref (xa 0)), (1, .int x1), (2, .int x2)] := hl
  have hCF : CallFix p m c cL_tryComplete 4 s ([.ref (xa 0), .int x1, .int x2] : List Value).toArray wsL_tryComplete RL := ⟨hx, hb, hml, hown, hts⟩
  have hk := kd_complete hz x1 x2
  refine lv_aload_n hx hb dL_tryComplete_0 rfl (lv_at hl 0 rfl) ?_
  refine lv_iload_n hx hb dL_tryComplete_1 rfl (lv_at hl 1 rfl) ?_
  refine lv_iload_n hx hb dL_tryComplete_2 rfl (lv_at hl 2 rfl) ?_
  refine exV (ci := 6) (A0 := A) (As := [.int x1, .int x2]) (rest := []) (W1 := (wSp cy xa sa sb tr na ka z)) (W2 := (wSp cy xa sa sb tr na ka (m_X8_complete z x1 x2).2.2)) (c_X8_complete l hl0 D cy t xa sa sb tr na ka z x1 x2 hz.st) hCF gL_tryComplete_X8_complete rfl hq_X8_complete ⟨rfl, rfl, Nat.le_of_ble_eq_true rfl, Nat.le_of_ble_eq_true rfl⟩ hG hF hP hD hS hA h_Sp rfl rfl (List.mem_of_getElem? g_Sp_0) rfl hl.1 rfl (Nat.le_of_ble_eq_true rfl) dL_tryComplete_3 ⟨Nat.le_of_ble_eq_true rfl, Nat.le_of_ble_eq_true rfl⟩ (fun h0 ce q9 H locs hP hD hS h1 h2 h3 => ?_) (fun h0 H locs hP hD hS => ?_)
  · rcases hk with k0 | k0
    · exact absurd k0 (by omega)
    · rw [k0] at h3
      refine hw_catch (i := 1) hown hF (tableOf []) ⟨0, 6, 7, 13⟩ (tableOf []) (htb.trans rfl) (fun z9 hz => absurd hz List.not_mem_nil) (by decide) (by decide) (hts (Cond.classLink RL 13 (exN 1)) (List.mem_of_getElem? (i := 1) rfl)) h1 h2 h3 ?_
      refine lv_astore_n (lv' := [(3, .ref q9), (0, .ref (xa 0)), (1, .int x1), (2, .int x2)]) hx hb dL_tryComplete_7 rfl hl (by decide) rfl (fun ls hl => ?_)
      refine lv_ldc (v := (-9999001 : Int32)) hx hb hown (hts (Cond.constant RL 15 (-9999001)) (List.mem_of_getElem? (i := 2) rfl)) dL_tryComplete_8 ?_
      exact hw_iret hx hb hr hlocks hP hS (Nat.le_refl _) (Nat.le_refl _) dL_tryComplete_10 (by rw [kV, k0]; rfl) rfl
  exact hw_iret hx hb hr hlocks hP hS (Nat.le_refl _) (Nat.le_refl _) dL_tryComplete_6 (by rw [kV, if_pos h0]) rfl
set_option maxRecDepth 20000 in
theorem c_L_tryTakings (l : Launch) (hl0 : l.stackTraces = false) (D : va_G) (cy : Nat → ClassId) (t : FxA) (xa sa sb tr na : Nat → Nat) (ka : Nat → Nat → Nat) {z : SpT} (hz : OKz z) (x1 : Int32) (x2 : Int32) : HW 8 1 6 200 l D cy t yL_tryTakings wsL_tryTakings (wSp cy xa sa sb tr na ka z) (wSp cy xa sa sb tr na ka (m_X8_takings z x1 x2).2.2) [.ref (xa 0), .int x1, .int x2] (kV (m_X8_takings z x1 x2)) := by
  refine HW.bodyW (hh := [(0, 6, 7, 13)]) (by decide) rfl (Nat.le_of_ble_eq_true rfl) ?_
  intro p e s m below meth c hx hb hml htb hr hts hown hlocks hP hG ls hl A hD hA hS hF
  have hl : lv_has ls 4 [(0, .ref (xa 0)), (1, .int x1), (2, .int x2)] := hl
  have hCF : CallFix p m c cL_tryTakings 4 s ([.ref (xa 0), .int x1, .int x2] : List Value).toArray wsL_tryTakings RL := ⟨hx, hb, hml, hown, hts⟩
  have hk := kd_takings hz x1 x2
  refine lv_aload_n hx hb dL_tryTakings_0 rfl (lv_at hl 0 rfl) ?_
  refine lv_iload_n hx hb dL_tryTakings_1 rfl (lv_at hl 1 rfl) ?_
  refine lv_iload_n hx hb dL_tryTakings_2 rfl (lv_at hl 2 rfl) ?_
  refine exV (ci := 6) (A0 := A) (As := [.int x1, .int x2]) (rest := []) (W1 := (wSp cy xa sa sb tr na ka z)) (W2 := (wSp cy xa sa sb tr na ka (m_X8_takings z x1 x2).2.2)) (c_X8_takings l hl0 D cy t xa sa sb tr na ka z x1 x2 hz.st) hCF gL_tryTakings_X8_takings rfl hq_X8_takings ⟨rfl, rfl, Nat.le_of_ble_eq_true rfl, Nat.le_of_ble_eq_true rfl⟩ hG hF hP hD hS hA h_Sp rfl rfl (List.mem_of_getElem? g_Sp_0) rfl hl.1 rfl (Nat.le_of_ble_eq_true rfl) dL_tryTakings_3 ⟨Nat.le_of_ble_eq_true rfl, Nat.le_of_ble_eq_true rfl⟩ (fun h0 ce q9 H locs hP hD hS h1 h2 h3 => ?_) (fun h0 H locs hP hD hS => ?_)
  · rcases hk with k0 | k0
    · exact absurd k0 (by omega)
    · rw [k0] at h3
      refine hw_catch (i := 1) hown hF (tableOf []) ⟨0, 6, 7, 13⟩ (tableOf []) (htb.trans rfl) (fun z9 hz => absurd hz List.not_mem_nil) (by decide) (by decide) (hts (Cond.classLink RL 13 (exN 1)) (List.mem_of_getElem? (i := 1) rfl)) h1 h2 h3 ?_
      refine lv_astore_n (lv' := [(3, .ref q9), (0, .ref (xa 0)), (1, .int x1), (2, .int x2)]) hx hb dL_tryTakings_7 rfl hl (by decide) rfl (fun ls hl => ?_)
      refine lv_ldc (v := (-9999001 : Int32)) hx hb hown (hts (Cond.constant RL 15 (-9999001)) (List.mem_of_getElem? (i := 2) rfl)) dL_tryTakings_8 ?_
      exact hw_iret hx hb hr hlocks hP hS (Nat.le_refl _) (Nat.le_refl _) dL_tryTakings_10 (by rw [kV, k0]; rfl) rfl
  exact hw_iret hx hb hr hlocks hP hS (Nat.le_refl _) (Nat.le_refl _) dL_tryTakings_6 (by rw [kV, if_pos h0]) rfl
set_option maxRecDepth 20000 in
theorem c_L_tryBill (l : Launch) (hl0 : l.stackTraces = false) (D : va_G) (cy : Nat → ClassId) (t : FxA) (xa sa sb tr na : Nat → Nat) (ka : Nat → Nat → Nat) {z : SpT} (hz : OKz z) (x1 : Int32) (x2 : Int32) : HW 8 1 6 200 l D cy t yL_tryBill wsL_tryBill (wSp cy xa sa sb tr na ka z) (wSp cy xa sa sb tr na ka (m_X8_bill z x1 x2).2.2) [.ref (xa 0), .int x1, .int x2] (kV (m_X8_bill z x1 x2)) := by
  refine HW.bodyW (hh := [(0, 6, 7, 13), (0, 6, 11, 26)]) (by decide) rfl (Nat.le_of_ble_eq_true rfl) ?_
  intro p e s m below meth c hx hb hml htb hr hts hown hlocks hP hG ls hl A hD hA hS hF
  have hl : lv_has ls 4 [(0, .ref (xa 0)), (1, .int x1), (2, .int x2)] := hl
  have hCF : CallFix p m c cL_tryBill 4 s ([.ref (xa 0), .int x1, .int x2] : List Value).toArray wsL_tryBill RL := ⟨hx, hb, hml, hown, hts⟩
  have hk := kd_bill hz x1 x2
  refine lv_aload_n hx hb dL_tryBill_0 rfl (lv_at hl 0 rfl) ?_
  refine lv_iload_n hx hb dL_tryBill_1 rfl (lv_at hl 1 rfl) ?_
  refine lv_iload_n hx hb dL_tryBill_2 rfl (lv_at hl 2 rfl) ?_
  refine exV (ci := 6) (A0 := A) (As := [.int x1, .int x2]) (rest := []) (W1 := (wSp cy xa sa sb tr na ka z)) (W2 := (wSp cy xa sa sb tr na ka (m_X8_bill z x1 x2).2.2)) (c_X8_bill l hl0 D cy t xa sa sb tr na ka z x1 x2 hz.st) hCF gL_tryBill_X8_bill rfl hq_X8_bill ⟨rfl, rfl, Nat.le_of_ble_eq_true rfl, Nat.le_of_ble_eq_true rfl⟩ hG hF hP hD hS hA h_Sp rfl rfl (List.mem_of_getElem? g_Sp_0) rfl hl.1 rfl (Nat.le_of_ble_eq_true rfl) dL_tryBill_3 ⟨Nat.le_of_ble_eq_true rfl, Nat.le_of_ble_eq_true rfl⟩ (fun h0 ce q9 H locs hP hD hS h1 h2 h3 => ?_) (fun h0 H locs hP hD hS => ?_)
  · rcases hk with k0 | k0 | k0
    · exact absurd k0 (by omega)
    · rw [k0] at h3
      refine hw_catch (i := 1) hown hF (tableOf []) ⟨0, 6, 7, 13⟩ (tableOf [(0, 6, 11, 26)]) (htb.trans rfl) (fun z9 hz => absurd hz List.not_mem_nil) (by decide) (by decide) (hts (Cond.classLink RL 13 (exN 1)) (List.mem_of_getElem? (i := 1) rfl)) h1 h2 h3 ?_
      refine lv_astore_n (lv' := [(3, .ref q9), (0, .ref (xa 0)), (1, .int x1), (2, .int x2)]) hx hb dL_tryBill_7 rfl hl (by decide) rfl (fun ls hl => ?_)
      refine lv_ldc (v := (-9999001 : Int32)) hx hb hown (hts (Cond.constant RL 15 (-9999001)) (List.mem_of_getElem? (i := 3) rfl)) dL_tryBill_8 ?_
      exact hw_iret hx hb hr hlocks hP hS (Nat.le_refl _) (Nat.le_refl _) dL_tryBill_10 (by rw [kV, k0]; rfl) rfl
    · rw [k0] at h3
      refine hw_catch (i := 2) hown hF (tableOf [(0, 6, 7, 13)]) ⟨0, 6, 11, 26⟩ (tableOf []) (htb.trans rfl) (fun z9 hz => by
        simp only [tableOf, List.map, List.mem_cons, List.not_mem_nil, or_false] at hz
        rcases hz with rfl
        · exact ⟨by decide, 1, hts (Cond.classLink RL 13 (exN 1)) (List.mem_of_getElem? (i := 1) rfl), by decide⟩) (by decide) (by decide) (hts (Cond.classLink RL 26 (exN 2)) (List.mem_of_getElem? (i := 2) rfl)) h1 h2 h3 ?_
      refine lv_astore_n (lv' := [(3, .ref q9), (0, .ref (xa 0)), (1, .int x1), (2, .int x2)]) hx hb dL_tryBill_11 rfl hl (by decide) rfl (fun ls hl => ?_)
      refine lv_ldc (v := (-9999002 : Int32)) hx hb hown (hts (Cond.constant RL 28 (-9999002)) (List.mem_of_getElem? (i := 4) rfl)) dL_tryBill_12 ?_
      exact hw_iret hx hb hr hlocks hP hS (Nat.le_refl _) (Nat.le_refl _) dL_tryBill_14 (by rw [kV, k0]; rfl) rfl
  exact hw_iret hx hb hr hlocks hP hS (Nat.le_refl _) (Nat.le_refl _) dL_tryBill_6 (by rw [kV, if_pos h0]) rfl
set_option maxRecDepth 20000 in
theorem c_L_tryCheapest (l : Launch) (hl0 : l.stackTraces = false) (D : va_G) (cy : Nat → ClassId) (t : FxA) (xa sa sb tr na : Nat → Nat) (ka : Nat → Nat → Nat) {z : SpT} (hz : OKz z) (x1 : Int32) (x2 : Int32) : HW 8 1 6 200 l D cy t yL_tryCheapest wsL_tryCheapest (wSp cy xa sa sb tr na ka z) (wSp cy xa sa sb tr na ka (m_X8_cheapest z x1 x2).2.2) [.ref (xa 0), .int x1, .int x2] (kV (m_X8_cheapest z x1 x2)) := by
  refine HW.bodyW (hh := [(0, 6, 7, 13)]) (by decide) rfl (Nat.le_of_ble_eq_true rfl) ?_
  intro p e s m below meth c hx hb hml htb hr hts hown hlocks hP hG ls hl A hD hA hS hF
  have hl : lv_has ls 4 [(0, .ref (xa 0)), (1, .int x1), (2, .int x2)] := hl
  have hCF : CallFix p m c cL_tryCheapest 4 s ([.ref (xa 0), .int x1, .int x2] : List Value).toArray wsL_tryCheapest RL := ⟨hx, hb, hml, hown, hts⟩
  have hk := kd_cheapest hz x1 x2
  refine lv_aload_n hx hb dL_tryCheapest_0 rfl (lv_at hl 0 rfl) ?_
  refine lv_iload_n hx hb dL_tryCheapest_1 rfl (lv_at hl 1 rfl) ?_
  refine lv_iload_n hx hb dL_tryCheapest_2 rfl (lv_at hl 2 rfl) ?_
  refine exV (ci := 6) (A0 := A) (As := [.int x1, .int x2]) (rest := []) (W1 := (wSp cy xa sa sb tr na ka z)) (W2 := (wSp cy xa sa sb tr na ka (m_X8_cheapest z x1 x2).2.2)) (c_X8_cheapest l hl0 D cy t xa sa sb tr na ka z x1 x2 hz.st) hCF gL_tryCheapest_X8_cheapest rfl hq_X8_cheapest ⟨rfl, rfl, Nat.le_of_ble_eq_true rfl, Nat.le_of_ble_eq_true rfl⟩ hG hF hP hD hS hA h_Sp rfl rfl (List.mem_of_getElem? g_Sp_0) rfl hl.1 rfl (Nat.le_of_ble_eq_true rfl) dL_tryCheapest_3 ⟨Nat.le_of_ble_eq_true rfl, Nat.le_of_ble_eq_true rfl⟩ (fun h0 ce q9 H locs hP hD hS h1 h2 h3 => ?_) (fun h0 H locs hP hD hS => ?_)
  · rcases hk with k0 | k0
    · exact absurd k0 (by omega)
    · rw [k0] at h3
      refine hw_catch (i := 1) hown hF (tableOf []) ⟨0, 6, 7, 13⟩ (tableOf []) (htb.trans rfl) (fun z9 hz => absurd hz List.not_mem_nil) (by decide) (by decide) (hts (Cond.classLink RL 13 (exN 1)) (List.mem_of_getElem? (i := 1) rfl)) h1 h2 h3 ?_
      refine lv_astore_n (lv' := [(3, .ref q9), (0, .ref (xa 0)), (1, .int x1), (2, .int x2)]) hx hb dL_tryCheapest_7 rfl hl (by decide) rfl (fun ls hl => ?_)
      refine lv_ldc (v := (-9999001 : Int32)) hx hb hown (hts (Cond.constant RL 15 (-9999001)) (List.mem_of_getElem? (i := 2) rfl)) dL_tryCheapest_8 ?_
      exact hw_iret hx hb hr hlocks hP hS (Nat.le_refl _) (Nat.le_refl _) dL_tryCheapest_10 (by rw [kV, k0]; rfl) rfl
  exact hw_iret hx hb hr hlocks hP hS (Nat.le_refl _) (Nat.le_refl _) dL_tryCheapest_6 (by rw [kV, if_pos h0]) rfl
set_option maxRecDepth 20000 in
theorem c_L_tryScript (l : Launch) (hl0 : l.stackTraces = false) (D : va_G) (cy : Nat → ClassId) (t : FxA) (xa sa sb tr na : Nat → Nat) (ka : Nat → Nat → Nat) {z : SpT} (hz : OKz z) (x1 : Int32) (x2 : Int64) : HW 8 1 6 200 l D cy t yL_tryScript wsL_tryScript (wSp cy xa sa sb tr na ka z) (wSp cy xa sa sb tr na ka (m_X8_runScript z x1 x2).2.2) [.ref (xa 0), .int x1, .long x2] (kV (m_X8_runScript z x1 x2)) := by
  refine HW.bodyW (hh := [(0, 6, 7, 26)]) (by decide) rfl (Nat.le_of_ble_eq_true rfl) ?_
  intro p e s m below meth c hx hb hml htb hr hts hown hlocks hP hG ls hl A hD hA hS hF
  have hl : lv_has ls 5 [(0, .ref (xa 0)), (1, .int x1), (2, .long x2)] := hl
  have hCF : CallFix p m c cL_tryScript 5 s ([.ref (xa 0), .int x1, .long x2] : List Value).toArray wsL_tryScript RL := ⟨hx, hb, hml, hown, hts⟩
  have hk := kd_runScript hz x1 x2
  refine lv_aload_n hx hb dL_tryScript_0 rfl (lv_at hl 0 rfl) ?_
  refine lv_iload_n hx hb dL_tryScript_1 rfl (lv_at hl 1 rfl) ?_
  refine lv_lload_n hx hb dL_tryScript_2 rfl (lv_at hl 2 rfl) ?_
  refine exV (ci := 6) (A0 := A) (As := [.int x1, .long x2]) (rest := []) (W1 := (wSp cy xa sa sb tr na ka z)) (W2 := (wSp cy xa sa sb tr na ka (m_X8_runScript z x1 x2).2.2)) (c_X8_runScript l hl0 D cy t xa sa sb tr na ka z x1 x2 hz.st) hCF gL_tryScript_X8_runScript rfl hq_X8_runScript ⟨rfl, rfl, Nat.le_of_ble_eq_true rfl, Nat.le_of_ble_eq_true rfl⟩ hG hF hP hD hS hA h_Sp rfl rfl (List.mem_of_getElem? g_Sp_0) rfl hl.1 rfl (Nat.le_of_ble_eq_true rfl) dL_tryScript_3 ⟨Nat.le_of_ble_eq_true rfl, Nat.le_of_ble_eq_true rfl⟩ (fun h0 ce q9 H locs hP hD hS h1 h2 h3 => ?_) (fun h0 H locs hP hD hS => ?_)
  · rcases hk with k0 | k0
    · exact absurd k0 (by omega)
    · rw [k0] at h3
      refine hw_catch (i := 2) hown hF (tableOf []) ⟨0, 6, 7, 26⟩ (tableOf []) (htb.trans rfl) (fun z9 hz => absurd hz List.not_mem_nil) (by decide) (by decide) (hts (Cond.classLink RL 26 (exN 2)) (List.mem_of_getElem? (i := 1) rfl)) h1 h2 h3 ?_
      refine lv_astore (lv' := [(4, .ref q9), (0, .ref (xa 0)), (1, .int x1), (2, .long x2)]) hx hb dL_tryScript_7 hl (by decide) rfl (fun ls hl => ?_)
      refine lv_ldc (v := (-9999002 : Int32)) hx hb hown (hts (Cond.constant RL 28 (-9999002)) (List.mem_of_getElem? (i := 2) rfl)) dL_tryScript_9 ?_
      exact hw_iret hx hb hr hlocks hP hS (Nat.le_refl _) (Nat.le_refl _) dL_tryScript_11 (by rw [kV, k0]; rfl) rfl
  exact hw_iret hx hb hr hlocks hP hS (Nat.le_refl _) (Nat.le_refl _) dL_tryScript_6 (by rw [kV, if_pos h0]) rfl
set_option maxRecDepth 20000 in
theorem c_L_trySimulate (l : Launch) (hl0 : l.stackTraces = false) (D : va_G) (cy : Nat → ClassId) (t : FxA) (xa sa sb tr na : Nat → Nat) (ka : Nat → Nat → Nat) {z : SpT} (hz : OKz z) (x1 : Int64) (x2 : Int32) : HW 8 1 6 200 l D cy t yL_trySimulate wsL_trySimulate (wSp cy xa sa sb tr na ka z) (wSp cy xa sa sb tr na ka (m_X8_simulate z x1 x2).2.2) [.ref (xa 0), .long x1, .int x2] (kV (m_X8_simulate z x1 x2)) := by
  refine HW.bodyW (hh := [(0, 6, 7, 26)]) (by decide) rfl (Nat.le_of_ble_eq_true rfl) ?_
  intro p e s m below meth c hx hb hml htb hr hts hown hlocks hP hG ls hl A hD hA hS hF
  have hl : lv_has ls 5 [(0, .ref (xa 0)), (1, .long x1), (3, .int x2)] := hl
  have hCF : CallFix p m c cL_trySimulate 5 s ([.ref (xa 0), .long x1, .int x2] : List Value).toArray wsL_trySimulate RL := ⟨hx, hb, hml, hown, hts⟩
  have hk := kd_simulate hz x1 x2
  refine lv_aload_n hx hb dL_trySimulate_0 rfl (lv_at hl 0 rfl) ?_
  refine lv_lload_n hx hb dL_trySimulate_1 rfl (lv_at hl 1 rfl) ?_
  refine lv_iload_n hx hb dL_trySimulate_2 rfl (lv_at hl 2 rfl) ?_
  refine exV (ci := 6) (A0 := A) (As := [.long x1, .int x2]) (rest := []) (W1 := (wSp cy xa sa sb tr na ka z)) (W2 := (wSp cy xa sa sb tr na ka (m_X8_simulate z x1 x2).2.2)) (c_X8_simulate l hl0 D cy t xa sa sb tr na ka z x1 x2 hz.st) hCF gL_trySimulate_X8_simulate rfl hq_X8_simulate ⟨rfl, rfl, Nat.le_of_ble_eq_true rfl, Nat.le_of_ble_eq_true rfl⟩ hG hF hP hD hS hA h_Sp rfl rfl (List.mem_of_getElem? g_Sp_0) rfl hl.1 rfl (Nat.le_of_ble_eq_true rfl) dL_trySimulate_3 ⟨Nat.le_of_ble_eq_true rfl, Nat.le_of_ble_eq_true rfl⟩ (fun h0 ce q9 H locs hP hD hS h1 h2 h3 => ?_) (fun h0 H locs hP hD hS => ?_)
  · rcases hk with k0 | k0
    · exact absurd k0 (by omega)
    · rw [k0] at h3
      refine hw_catch (i := 2) hown hF (tableOf []) ⟨0, 6, 7, 26⟩ (tableOf []) (htb.trans rfl) (fun z9 hz => absurd hz List.not_mem_nil) (by decide) (by decide) (hts (Cond.classLink RL 26 (exN 2)) (List.mem_of_getElem? (i := 1) rfl)) h1 h2 h3 ?_
      refine lv_astore (lv' := [(4, .ref q9), (0, .ref (xa 0)), (1, .long x1), (3, .int x2)]) hx hb dL_trySimulate_7 hl (by decide) rfl (fun ls hl => ?_)
      refine lv_ldc (v := (-9999002 : Int32)) hx hb hown (hts (Cond.constant RL 28 (-9999002)) (List.mem_of_getElem? (i := 2) rfl)) dL_trySimulate_9 ?_
      exact hw_iret hx hb hr hlocks hP hS (Nat.le_refl _) (Nat.le_refl _) dL_trySimulate_11 (by rw [kV, k0]; rfl) rfl
  exact hw_iret hx hb hr hlocks hP hS (Nat.le_refl _) (Nat.le_refl _) dL_trySimulate_6 (by rw [kV, if_pos h0]) rfl
set_option maxRecDepth 20000 in
theorem c_L_tryKeep (l : Launch) (hl0 : l.stackTraces = false) (D : va_G) (cy : Nat → ClassId) (t : FxA) (xa sa sb tr na : Nat → Nat) (ka : Nat → Nat → Nat) {z : SpT} (hz : OKz z) (x1 : Int32) : HW 8 1 6 200 l D cy t yL_tryKeep wsL_tryKeep (wSp cy xa sa sb tr na ka z) (wSp cy xa sa sb tr na ka (m_X8_save z x1).2.2) [.ref (xa 0), .int x1] (kV (m_X8_save z x1)) := by
  refine HW.bodyW (hh := [(0, 5, 6, 13)]) (by decide) rfl (Nat.le_of_ble_eq_true rfl) ?_
  intro p e s m below meth c hx hb hml htb hr hts hown hlocks hP hG ls hl A hD hA hS hF
  have hl : lv_has ls 3 [(0, .ref (xa 0)), (1, .int x1)] := hl
  have hCF : CallFix p m c cL_tryKeep 3 s ([.ref (xa 0), .int x1] : List Value).toArray wsL_tryKeep RL := ⟨hx, hb, hml, hown, hts⟩
  have hk := kd_save hz x1
  refine lv_aload_n hx hb dL_tryKeep_0 rfl (lv_at hl 0 rfl) ?_
  refine lv_iload_n hx hb dL_tryKeep_1 rfl (lv_at hl 1 rfl) ?_
  refine exV (ci := 6) (A0 := A) (As := [.int x1]) (rest := []) (W1 := (wSp cy xa sa sb tr na ka z)) (W2 := (wSp cy xa sa sb tr na ka (m_X8_save z x1).2.2)) (c_X8_save l hl0 D cy t xa sa sb tr na ka z x1) hCF gL_tryKeep_X8_save rfl hq_X8_save ⟨rfl, rfl, Nat.le_of_ble_eq_true rfl, Nat.le_of_ble_eq_true rfl⟩ hG hF hP hD hS hA h_Sp rfl rfl (List.mem_of_getElem? g_Sp_0) rfl hl.1 rfl (Nat.le_of_ble_eq_true rfl) dL_tryKeep_2 ⟨Nat.le_of_ble_eq_true rfl, Nat.le_of_ble_eq_true rfl⟩ (fun h0 ce q9 H locs hP hD hS h1 h2 h3 => ?_) (fun h0 H locs hP hD hS => ?_)
  · rcases hk with k0 | k0
    · exact absurd k0 (by omega)
    · rw [k0] at h3
      refine hw_catch (i := 1) hown hF (tableOf []) ⟨0, 5, 6, 13⟩ (tableOf []) (htb.trans rfl) (fun z9 hz => absurd hz List.not_mem_nil) (by decide) (by decide) (hts (Cond.classLink RL 13 (exN 1)) (List.mem_of_getElem? (i := 1) rfl)) h1 h2 h3 ?_
      refine lv_astore_n (lv' := [(2, .ref q9), (0, .ref (xa 0)), (1, .int x1)]) hx hb dL_tryKeep_6 rfl hl (by decide) rfl (fun ls hl => ?_)
      refine lv_ldc (v := (-9999001 : Int32)) hx hb hown (hts (Cond.constant RL 15 (-9999001)) (List.mem_of_getElem? (i := 2) rfl)) dL_tryKeep_7 ?_
      exact hw_iret hx hb hr hlocks hP hS (Nat.le_refl _) (Nat.le_refl _) dL_tryKeep_9 (by rw [kV, k0]; rfl) rfl
  exact hw_iret hx hb hr hlocks hP hS (Nat.le_refl _) (Nat.le_refl _) dL_tryKeep_5 (by rw [kV, if_pos h0]) rfl
set_option maxRecDepth 20000 in
theorem c_L_tryBack (l : Launch) (hl0 : l.stackTraces = false) (D : va_G) (cy : Nat → ClassId) (t : FxA) (xa sa sb tr na : Nat → Nat) (ka : Nat → Nat → Nat) {z : SpT} (hz : OKz z) (x1 : Int32) : HW 8 1 6 200 l D cy t yL_tryBack wsL_tryBack (wSp cy xa sa sb tr na ka z) (wSp cy xa sa sb tr na ka (m_X8_restore z x1).2.2) [.ref (xa 0), .int x1] (kV (m_X8_restore z x1)) := by
  refine HW.bodyW (hh := [(0, 5, 6, 13), (0, 5, 10, 19)]) (by decide) rfl (Nat.le_of_ble_eq_true rfl) ?_
  intro p e s m below meth c hx hb hml htb hr hts hown hlocks hP hG ls hl A hD hA hS hF
  have hl : lv_has ls 3 [(0, .ref (xa 0)), (1, .int x1)] := hl
  have hCF : CallFix p m c cL_tryBack 3 s ([.ref (xa 0), .int x1] : List Value).toArray wsL_tryBack RL := ⟨hx, hb, hml, hown, hts⟩
  have hk := kd_restore hz x1
  refine lv_aload_n hx hb dL_tryBack_0 rfl (lv_at hl 0 rfl) ?_
  refine lv_iload_n hx hb dL_tryBack_1 rfl (lv_at hl 1 rfl) ?_
  refine exV (ci := 6) (A0 := A) (As := [.int x1]) (rest := []) (W1 := (wSp cy xa sa sb tr na ka z)) (W2 := (wSp cy xa sa sb tr na ka (m_X8_restore z x1).2.2)) (c_X8_restore l hl0 D cy t xa sa sb tr na ka z x1) hCF gL_tryBack_X8_restore rfl hq_X8_restore ⟨rfl, rfl, Nat.le_of_ble_eq_true rfl, Nat.le_of_ble_eq_true rfl⟩ hG hF hP hD hS hA h_Sp rfl rfl (List.mem_of_getElem? g_Sp_0) rfl hl.1 rfl (Nat.le_of_ble_eq_true rfl) dL_tryBack_2 ⟨Nat.le_of_ble_eq_true rfl, Nat.le_of_ble_eq_true rfl⟩ (fun h0 ce q9 H locs hP hD hS h1 h2 h3 => ?_) (fun h0 H locs hP hD hS => ?_)
  · rcases hk with k0 | k0 | k0
    · exact absurd k0 (by omega)
    · rw [k0] at h3
      refine hw_catch (i := 1) hown hF (tableOf []) ⟨0, 5, 6, 13⟩ (tableOf [(0, 5, 10, 19)]) (htb.trans rfl) (fun z9 hz => absurd hz List.not_mem_nil) (by decide) (by decide) (hts (Cond.classLink RL 13 (exN 1)) (List.mem_of_getElem? (i := 1) rfl)) h1 h2 h3 ?_
      refine lv_astore_n (lv' := [(2, .ref q9), (0, .ref (xa 0)), (1, .int x1)]) hx hb dL_tryBack_6 rfl hl (by decide) rfl (fun ls hl => ?_)
      refine lv_ldc (v := (-9999001 : Int32)) hx hb hown (hts (Cond.constant RL 15 (-9999001)) (List.mem_of_getElem? (i := 3) rfl)) dL_tryBack_7 ?_
      exact hw_iret hx hb hr hlocks hP hS (Nat.le_refl _) (Nat.le_refl _) dL_tryBack_9 (by rw [kV, k0]; rfl) rfl
    · rw [k0] at h3
      refine hw_catch (i := 3) hown hF (tableOf [(0, 5, 6, 13)]) ⟨0, 5, 10, 19⟩ (tableOf []) (htb.trans rfl) (fun z9 hz => by
        simp only [tableOf, List.map, List.mem_cons, List.not_mem_nil, or_false] at hz
        rcases hz with rfl
        · exact ⟨by decide, 1, hts (Cond.classLink RL 13 (exN 1)) (List.mem_of_getElem? (i := 1) rfl), by decide⟩) (by decide) (by decide) (hts (Cond.classLink RL 19 (exN 3)) (List.mem_of_getElem? (i := 2) rfl)) h1 h2 h3 ?_
      refine lv_astore_n (lv' := [(2, .ref q9), (0, .ref (xa 0)), (1, .int x1)]) hx hb dL_tryBack_10 rfl hl (by decide) rfl (fun ls hl => ?_)
      refine lv_ldc (v := (-9999003 : Int32)) hx hb hown (hts (Cond.constant RL 21 (-9999003)) (List.mem_of_getElem? (i := 4) rfl)) dL_tryBack_11 ?_
      exact hw_iret hx hb hr hlocks hP hS (Nat.le_refl _) (Nat.le_refl _) dL_tryBack_13 (by rw [kV, k0]; rfl) rfl
  exact hw_iret hx hb hr hlocks hP hS (Nat.le_refl _) (Nat.le_refl _) dL_tryBack_5 (by rw [kV, if_pos h0]) rfl
