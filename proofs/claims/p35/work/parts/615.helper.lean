/-! helpers of the law -/
set_option maxRecDepth 20000 in
theorem c_L_tryBring (l : Launch) (hl0 : l.stackTraces = false) (D : va_G) (cy : Nat → ClassId) (t : FxA) (xa sa sb tr na : Nat → Nat) (ka : Nat → Nat → Nat) {z : SpT} (hz : OKz z) (x1 : Int32) : HW 8 1 6 200 l D cy t yL_tryBring wsL_tryBring (wSp cy xa sa sb tr na ka z) (wSp cy xa sa sb tr na ka (m_X8_bring z x1).2.2) [.ref (xa 0), .int x1] (kV (m_X8_bring z x1)) := by
  refine HW.bodyW (hh := [(0, 5, 6, 13), (0, 5, 10, 19)]) (by decide) rfl (Nat.le_of_ble_eq_true rfl) ?_
  intro p e s m below meth c hx hb hml htb hr hts hown hlocks hP hG ls hl A hD hA hS hF
  have hl : lv_has ls 3 [(0, .ref (xa 0)), (1, .int x1)] := hl
  have hCF : CallFix p m c cL_tryBring 3 s ([.ref (xa 0), .int x1] : List Value).toArray wsL_tryBring RL := ⟨hx, hb, hml, hown, hts⟩
  have hk := kd_bring hz x1
  refine lv_aload_n hx hb dL_tryBring_0 rfl (lv_at hl 0 rfl) ?_
  refine lv_iload_n hx hb dL_tryBring_1 rfl (lv_at hl 1 rfl) ?_
  refine exV (ci := 6) (A0 := A) (As := [.int x1]) (rest := []) (W1 := (wSp cy xa sa sb tr na ka z)) (W2 := (wSp cy xa sa sb tr na ka (m_X8_bring z x1).2.2)) (c_X8_bring l hl0 D cy t xa sa sb tr na ka z x1 hz.hi hz.st) hCF gL_tryBring_X8_bring rfl hq_X8_bring ⟨rfl, rfl, Nat.le_of_ble_eq_true rfl, Nat.le_of_ble_eq_true rfl⟩ hG hF hP hD hS hA h_Sp rfl rfl (List.mem_of_getElem? g_Sp_0) rfl hl.1 rfl (Nat.le_of_ble_eq_true rfl) dL_tryBring_2 ⟨Nat.le_of_ble_eq_true rfl, Nat.le_of_ble_eq_true rfl⟩ (fun h0 ce q9 H locs hP hD hS h1 h2 h3 => ?_) (fun h0 H locs hP hD hS => ?_)
  · rcases hk with k0 | k0 | k0
    · exact absurd k0 (by omega)
    · rw [k0] at h3
      refine hw_catch (i := 1) hown hF (tableOf []) ⟨0, 5, 6, 13⟩ (tableOf [(0, 5, 10, 19)]) (htb.trans rfl) (fun z9 hz => absurd hz List.not_mem_nil) (by decide) (by decide) (hts (Cond.classLink RL 13 (exN 1)) (List.mem_of_getElem? (i := 1) rfl)) h1 h2 h3 ?_
      refine lv_astore_n (lv' := [(2, .ref q9), (0, .ref (xa 0)), (1, .int x1)]) hx hb dL_tryBring_6 rfl hl (by decide) rfl (fun ls hl => ?_)
      refine lv_ldc (v := (-9999001 : Int32)) hx hb hown (hts (Cond.constant RL 15 (-9999001)) (List.mem_of_getElem? (i := 3) rfl)) dL_tryBring_7 ?_
      exact hw_iret hx hb hr hlocks hP hS (Nat.le_refl _) (Nat.le_refl _) dL_tryBring_9 (by rw [kV, k0]; rfl) rfl
    · rw [k0] at h3
      refine hw_catch (i := 3) hown hF (tableOf [(0, 5, 6, 13)]) ⟨0, 5, 10, 19⟩ (tableOf []) (htb.trans rfl) (fun z9 hz => by
        simp only [tableOf, List.map, List.mem_cons, List.not_mem_nil, or_false] at hz
        rcases hz with rfl
        · exact ⟨by decide, 1, hts (Cond.classLink RL 13 (exN 1)) (List.mem_of_getElem? (i := 1) rfl), by decide⟩) (by decide) (by decide) (hts (Cond.classLink RL 19 (exN 3)) (List.mem_of_getElem? (i := 2) rfl)) h1 h2 h3 ?_
      refine lv_astore_n (lv' := [(2, .ref q9), (0, .ref (xa 0)), (1, .int x1)]) hx hb dL_tryBring_10 rfl hl (by decide) rfl (fun ls hl => ?_)
      refine lv_ldc (v := (-9999003 : Int32)) hx hb hown (hts (Cond.constant RL 21 (-9999003)) (List.mem_of_getElem? (i := 4) rfl)) dL_tryBring_11 ?_
      exact hw_iret hx hb hr hlocks hP hS (Nat.le_refl _) (Nat.le_refl _) dL_tryBring_13 (by rw [kV, k0]; rfl) rfl
  exact hw_iret hx hb hr hlocks hP hS (Nat.le_refl _) (Nat.le_refl _) dL_tryBring_5 (by rw [kV, if_pos h0]) rfl
set_option maxRecDepth 20000 in
theorem c_L_tryExchange (l : Launch) (hl0 : l.stackTraces = false) (D : va_G) (cy : Nat → ClassId) (t : FxA) (xa sa sb tr na : Nat → Nat) (ka : Nat → Nat → Nat) {z : SpT} (hz : OKz z) (x1 : Int32) (x2 : Int32) : HW 8 1 6 200 l D cy t yL_tryExchange wsL_tryExchange (wSp cy xa sa sb tr na ka z) (wSp cy xa sa sb tr na ka (m_X8_exchange z x1 x2).2.2) [.ref (xa 0), .int x1, .int x2] (kV (m_X8_exchange z x1 x2)) := by
  refine HW.bodyW (hh := [(0, 6, 7, 13), (0, 6, 11, 19)]) (by decide) rfl (Nat.le_of_ble_eq_true rfl) ?_
  intro p e s m below meth c hx hb hml htb hr hts hown hlocks hP hG ls hl A hD hA hS hF
  have hl : lv_has ls 4 [(0, .ref (xa 0)), (1, .int x1), (2, .int x2)] := hl
  have hCF : CallFix p m c cL_tryExchange 4 s ([.ref (xa 0), .int x1, .int x2] : List Value).toArray wsL_tryExchange RL := ⟨hx, hb, hml, hown, hts⟩
  have hk := kd_exchange hz x1 x2
  refine lv_aload_n hx hb dL_tryExchange_0 rfl (lv_at hl 0 rfl) ?_
  refine lv_iload_n hx hb dL_tryExchange_1 rfl (lv_at hl 1 rfl) ?_
  refine lv_iload_n hx hb dL_tryExchange_2 rfl (lv_at hl 2 rfl) ?_
  refine exV (ci := 6) (A0 := A) (As := [.int x1, .int x2]) (rest := []) (W1 := (wSp cy xa sa sb tr na ka z)) (W2 := (wSp cy xa sa sb tr na ka (m_X8_exchange z x1 x2).2.2)) (c_X8_exchange l hl0 D cy t xa sa sb tr na ka z x1 x2 hz.hi hz.st) hCF gL_tryExchange_X8_exchange rfl hq_X8_exchange ⟨rfl, rfl, Nat.le_of_ble_eq_true rfl, Nat.le_of_ble_eq_true rfl⟩ hG hF hP hD hS hA h_Sp rfl rfl (List.mem_of_getElem? g_Sp_0) rfl hl.1 rfl (Nat.le_of_ble_eq_true rfl) dL_tryExchange_3 ⟨Nat.le_of_ble_eq_true rfl, Nat.le_of_ble_eq_true rfl⟩ (fun h0 ce q9 H locs hP hD hS h1 h2 h3 => ?_) (fun h0 H locs hP hD hS => ?_)
  · rcases hk with k0 | k0 | k0
    · exact absurd k0 (by omega)
    · rw [k0] at h3
      refine hw_catch (i := 1) hown hF (tableOf []) ⟨0, 6, 7, 13⟩ (tableOf [(0, 6, 11, 19)]) (htb.trans rfl) (fun z9 hz => absurd hz List.not_mem_nil) (by decide) (by decide) (hts (Cond.classLink RL 13 (exN 1)) (List.mem_of_getElem? (i := 1) rfl)) h1 h2 h3 ?_
      refine lv_astore_n (lv' := [(3, .ref q9), (0, .ref (xa 0)), (1, .int x1), (2, .int x2)]) hx hb dL_tryExchange_7 rfl hl (by decide) rfl (fun ls hl => ?_)
      refine lv_ldc (v := (-9999001 : Int32)) hx hb hown (hts (Cond.constant RL 15 (-9999001)) (List.mem_of_getElem? (i := 3) rfl)) dL_tryExchange_8 ?_
      exact hw_iret hx hb hr hlocks hP hS (Nat.le_refl _) (Nat.le_refl _) dL_tryExchange_10 (by rw [kV, k0]; rfl) rfl
    · rw [k0] at h3
      refine hw_catch (i := 3) hown hF (tableOf [(0, 6, 7, 13)]) ⟨0, 6, 11, 19⟩ (tableOf []) (htb.trans rfl) (fun z9 hz => by
        simp only [tableOf, List.map, List.mem_cons, List.not_mem_nil, or_false] at hz
        rcases hz with rfl
        · exact ⟨by decide, 1, hts (Cond.classLink RL 13 (exN 1)) (List.mem_of_getElem? (i := 1) rfl), by decide⟩) (by decide) (by decide) (hts (Cond.classLink RL 19 (exN 3)) (List.mem_of_getElem? (i := 2) rfl)) h1 h2 h3 ?_
      refine lv_astore_n (lv' := [(3, .ref q9), (0, .ref (xa 0)), (1, .int x1), (2, .int x2)]) hx hb dL_tryExchange_11 rfl hl (by decide) rfl (fun ls hl => ?_)
      refine lv_ldc (v := (-9999003 : Int32)) hx hb hown (hts (Cond.constant RL 21 (-9999003)) (List.mem_of_getElem? (i := 4) rfl)) dL_tryExchange_12 ?_
      exact hw_iret hx hb hr hlocks hP hS (Nat.le_refl _) (Nat.le_refl _) dL_tryExchange_14 (by rw [kV, k0]; rfl) rfl
  exact hw_iret hx hb hr hlocks hP hS (Nat.le_refl _) (Nat.le_refl _) dL_tryExchange_6 (by rw [kV, if_pos h0]) rfl
set_option maxRecDepth 20000 in
theorem c_L_tryAdvance (l : Launch) (hl0 : l.stackTraces = false) (D : va_G) (cy : Nat → ClassId) (t : FxA) (xa sa sb tr na : Nat → Nat) (ka : Nat → Nat → Nat) {z : SpT} (hz : OKz z) (x1 : Int32) (x2 : Int32) (x3 : Int32) : HW 8 1 6 200 l D cy t yL_tryAdvance wsL_tryAdvance (wSp cy xa sa sb tr na ka z) (wSp cy xa sa sb tr na ka (m_X8_advance z x1 x2 x3).2.2) [.ref (xa 0), .int x1, .int x2, .int x3] (kV (m_X8_advance z x1 x2 x3)) := by
  refine HW.bodyW (hh := [(0, 7, 8, 13), (0, 7, 13, 26), (0, 7, 18, 19)]) (by decide) rfl (Nat.le_of_ble_eq_true rfl) ?_
  intro p e s m below meth c hx hb hml htb hr hts hown hlocks hP hG ls hl A hD hA hS hF
  have hl : lv_has ls 5 [(0, .ref (xa 0)), (1, .int x1), (2, .int x2), (3, .int x3)] := hl
  have hCF : CallFix p m c cL_tryAdvance 5 s ([.ref (xa 0), .int x1, .int x2, .int x3] : List Value).toArray wsL_tryAdvance RL := ⟨hx, hb, hml, hown, hts⟩
  have hk := kd_advance hz x1 x2 x3
  refine lv_aload_n hx hb dL_tryAdvance_0 rfl (lv_at hl 0 rfl) ?_
  refine lv_iload_n hx hb dL_tryAdvance_1 rfl (lv_at hl 1 rfl) ?_
  refine lv_iload_n hx hb dL_tryAdvance_2 rfl (lv_at hl 2 rfl) ?_
  refine lv_iload_n hx hb dL_tryAdvance_3 rfl (lv_at hl 3 rfl) ?_
  refine exV (ci := 6) (A0 := A) (As := [.int x1, .int x2, .int x3]) (rest := []) (W1 := (wSp cy xa sa sb tr na ka z)) (W2 := (wSp cy xa sa sb tr na ka (m_X8_advance z x1 x2 x3).2.2)) (c_X8_advance l hl0 D cy t xa sa sb tr na ka z x1 x2 x3 hz.hi hz.st) hCF gL_tryAdvance_X8_advance rfl hq_X8_advance ⟨rfl, rfl, Nat.le_of_ble_eq_true rfl, Nat.le_of_ble_eq_true rfl⟩ hG hF hP hD hS hA h_Sp rfl rfl (List.mem_of_getElem? g_Sp_0) rfl hl.1 rfl (Nat.le_of_ble_eq_true rfl) dL_tryAdvance_4 ⟨Nat.le_of_ble_eq_true rfl, Nat.le_of_ble_eq_true rfl⟩ (fun h0 ce q9 H locs hP hD hS h1 h2 h3 => ?_) (fun h0 H locs hP hD hS => ?_)
  · rcases hk with k0 | k0 | k0 | k0
    · exact absurd k0 (by omega)
    · rw [k0] at h3
      refine hw_catch (i := 1) hown hF (tableOf []) ⟨0, 7, 8, 13⟩ (tableOf [(0, 7, 13, 26), (0, 7, 18, 19)]) (htb.trans rfl) (fun z9 hz => absurd hz List.not_mem_nil) (by decide) (by decide) (hts (Cond.classLink RL 13 (exN 1)) (List.mem_of_getElem? (i := 1) rfl)) h1 h2 h3 ?_
      refine lv_astore (lv' := [(4, .ref q9), (0, .ref (xa 0)), (1, .int x1), (2, .int x2), (3, .int x3)]) hx hb dL_tryAdvance_8 hl (by decide) rfl (fun ls hl => ?_)
      refine lv_ldc (v := (-9999001 : Int32)) hx hb hown (hts (Cond.constant RL 15 (-9999001)) (List.mem_of_getElem? (i := 4) rfl)) dL_tryAdvance_10 ?_
      exact hw_iret hx hb hr hlocks hP hS (Nat.le_refl _) (Nat.le_refl _) dL_tryAdvance_12 (by rw [kV, k0]; rfl) rfl
    · rw [k0] at h3
      refine hw_catch (i := 2) hown hF (tableOf [(0, 7, 8, 13)]) ⟨0, 7, 13, 26⟩ (tableOf [(0, 7, 18, 19)]) (htb.trans rfl) (fun z9 hz => by
        simp only [tableOf, List.map, List.mem_cons, List.not_mem_nil, or_false] at hz
        rcases hz with rfl
        · exact ⟨by decide, 1, hts (Cond.classLink RL 13 (exN 1)) (List.mem_of_getElem? (i := 1) rfl), by decide⟩) (by decide) (by decide) (hts (Cond.classLink RL 26 (exN 2)) (List.mem_of_getElem? (i := 2) rfl)) h1 h2 h3 ?_
      refine lv_astore (lv' := [(4, .ref q9), (0, .ref (xa 0)), (1, .int x1), (2, .int x2), (3, .int x3)]) hx hb dL_tryAdvance_13 hl (by decide) rfl (fun ls hl => ?_)
      refine lv_ldc (v := (-9999002 : Int32)) hx hb hown (hts (Cond.constant RL 28 (-9999002)) (List.mem_of_getElem? (i := 5) rfl)) dL_tryAdvance_15 ?_
      exact hw_iret hx hb hr hlocks hP hS (Nat.le_refl _) (Nat.le_refl _) dL_tryAdvance_17 (by rw [kV, k0]; rfl) rfl
    · rw [k0] at h3
      refine hw_catch (i := 3) hown hF (tableOf [(0, 7, 8, 13), (0, 7, 13, 26)]) ⟨0, 7, 18, 19⟩ (tableOf []) (htb.trans rfl) (fun z9 hz => by
        simp only [tableOf, List.map, List.mem_cons, List.not_mem_nil, or_false] at hz
        rcases hz with rfl | rfl
        · exact ⟨by decide, 1, hts (Cond.classLink RL 13 (exN 1)) (List.mem_of_getElem? (i := 1) rfl), by decide⟩
        · exact ⟨by decide, 2, hts (Cond.classLink RL 26 (exN 2)) (List.mem_of_getElem? (i := 2) rfl), by decide⟩) (by decide) (by decide) (hts (Cond.classLink RL 19 (exN 3)) (List.mem_of_getElem? (i := 3) rfl)) h1 h2 h3 ?_
      refine lv_astore (lv' := [(4, .ref q9), (0, .ref (xa 0)), (1, .int x1), (2, .int x2), (3, .int x3)]) hx hb dL_tryAdvance_18 hl (by decide) rfl (fun ls hl => ?_)
      refine lv_ldc (v := (-9999003 : Int32)) hx hb hown (hts (Cond.constant RL 21 (-9999003)) (List.mem_of_getElem? (i := 6) rfl)) dL_tryAdvance_20 ?_
      exact hw_iret hx hb hr hlocks hP hS (Nat.le_refl _) (Nat.le_refl _) dL_tryAdvance_22 (by rw [kV, k0]; rfl) rfl
  exact hw_iret hx hb hr hlocks hP hS (Nat.le_refl _) (Nat.le_refl _) dL_tryAdvance_7 (by rw [kV, if_pos h0]) rfl
set_option maxRecDepth 20000 in
theorem c_L_tryDeliver (l : Launch) (hl0 : l.stackTraces = false) (D : va_G) (cy : Nat → ClassId) (t : FxA) (xa sa sb tr na : Nat → Nat) (ka : Nat → Nat → Nat) {z : SpT} (hz : OKz z) (x1 : Int32) : HW 8 1 6 200 l D cy t yL_tryDeliver wsL_tryDeliver (wSp cy xa sa sb tr na ka z) (wSp cy xa sa sb tr na ka (m_X8_deliver z x1).2.2) [.ref (xa 0), .int x1] (kV (m_X8_deliver z x1)) := by
  refine HW.bodyW (hh := [(0, 5, 6, 13), (0, 5, 10, 19)]) (by decide) rfl (Nat.le_of_ble_eq_true rfl) ?_
  intro p e s m below meth c hx hb hml htb hr hts hown hlocks hP hG ls hl A hD hA hS hF
  have hl : lv_has ls 3 [(0, .ref (xa 0)), (1, .int x1)] := hl
  have hCF : CallFix p m c cL_tryDeliver 3 s ([.ref (xa 0), .int x1] : List Value).toArray wsL_tryDeliver RL := ⟨hx, hb, hml, hown, hts⟩
  have hk := kd_deliver hz x1
  refine lv_aload_n hx hb dL_tryDeliver_0 rfl (lv_at hl 0 rfl) ?_
  refine lv_iload_n hx hb dL_tryDeliver_1 rfl (lv_at hl 1 rfl) ?_
  refine exV (ci := 6) (A0 := A) (As := [.int x1]) (rest := []) (W1 := (wSp cy xa sa sb tr na ka z)) (W2 := (wSp cy xa sa sb tr na ka (m_X8_deliver z x1).2.2)) (c_X8_deliver l hl0 D cy t xa sa sb tr na ka z x1 hz.hi hz.st) hCF gL_tryDeliver_X8_deliver rfl hq_X8_deliver ⟨rfl, rfl, Nat.le_of_ble_eq_true rfl, Nat.le_of_ble_eq_true rfl⟩ hG hF hP hD hS hA h_Sp rfl rfl (List.mem_of_getElem? g_Sp_0) rfl hl.1 rfl (Nat.le_of_ble_eq_true rfl) dL_tryDeliver_2 ⟨Nat.le_of_ble_eq_true rfl, Nat.le_of_ble_eq_true rfl⟩ (fun h0 ce q9 H locs hP hD hS h1 h2 h3 => ?_) (fun h0 H locs hP hD hS => ?_)
  · rcases hk with k0 | k0 | k0
    · exact absurd k0 (by omega)
    · rw [k0] at h3
      refine hw_catch (i := 1) hown hF (tableOf []) ⟨0, 5, 6, 13⟩ (tableOf [(0, 5, 10, 19)]) (htb.trans rfl) (fun z9 hz => absurd hz List.not_mem_nil) (by decide) (by decide) (hts (Cond.classLink RL 13 (exN 1)) (List.mem_of_getElem? (i := 1) rfl)) h1 h2 h3 ?_
      refine lv_astore_n (lv' := [(2, .ref q9), (0, .ref (xa 0)), (1, .int x1)]) hx hb dL_tryDeliver_6 rfl hl (by decide) rfl (fun ls hl => ?_)
      refine lv_ldc (v := (-9999001 : Int32)) hx hb hown (hts (Cond.constant RL 15 (-9999001)) (List.mem_of_getElem? (i := 3) rfl)) dL_tryDeliver_7 ?_
      exact hw_iret hx hb hr hlocks hP hS (Nat.le_refl _) (Nat.le_refl _) dL_tryDeliver_9 (by rw [kV, k0]; rfl) rfl
    · rw [k0] at h3
      refine hw_catch (i := 3) hown hF (tableOf [(0, 5, 6, 13)]) ⟨0, 5, 10, 19⟩ (tableOf []) (htb.trans rfl) (fun z9 hz => by
        simp only [tableOf, List.map, List.mem_cons, List.not_mem_nil, or_false] at hz
        rcases hz with rfl
        · exact ⟨by decide, 1, hts (Cond.classLink RL 13 (exN 1)) (List.mem_of_getElem? (i := 1) rfl), by decide⟩) (by decide) (by decide) (hts (Cond.classLink RL 19 (exN 3)) (List.mem_of_getElem? (i := 2) rfl)) h1 h2 h3 ?_
      refine lv_astore_n (lv' := [(2, .ref q9), (0, .ref (xa 0)), (1, .int x1)]) hx hb dL_tryDeliver_10 rfl hl (by decide) rfl (fun ls hl => ?_)
      refine lv_ldc (v := (-9999003 : Int32)) hx hb hown (hts (Cond.constant RL 21 (-9999003)) (List.mem_of_getElem? (i := 4) rfl)) dL_tryDeliver_11 ?_
      exact hw_iret hx hb hr hlocks hP hS (Nat.le_refl _) (Nat.le_refl _) dL_tryDeliver_13 (by rw [kV, k0]; rfl) rfl
  exact hw_iret hx hb hr hlocks hP hS (Nat.le_refl _) (Nat.le_refl _) dL_tryDeliver_5 (by rw [kV, if_pos h0]) rfl
set_option maxRecDepth 20000 in
theorem c_L_tryTake (l : Launch) (hl0 : l.stackTraces = false) (D : va_G) (cy : Nat → ClassId) (t : FxA) (xa sa sb tr na : Nat → Nat) (ka : Nat → Nat → Nat) {z : SpT} (hz : OKz z) (x1 : Int32) (x2 : Int32) (x3 : Int32) : HW 8 1 6 200 l D cy t yL_tryTake wsL_tryTake (wSp cy xa sa sb tr na ka z) (wSp cy xa sa sb tr na ka (m_X8_take z x1 x2 x3).2.2) [.ref (xa 0), .int x1, .int x2, .int x3] (kV (m_X8_take z x1 x2 x3)) := by
  refine HW.bodyW (hh := [(0, 7, 8, 13), (0, 7, 13, 19)]) (by decide) rfl (Nat.le_of_ble_eq_true rfl) ?_
  intro p e s m below meth c hx hb hml htb hr hts hown hlocks hP hG ls hl A hD hA hS hF
  have hl : lv_has ls 5 [(0, .ref (xa 0)), (1, .int x1), (2, .int x2), (3, .int x3)] := hl
  have hCF : CallFix p m c cL_tryTake 5 s ([.ref (xa 0), .int x1, .int x2, .int x3] : List Value).toArray wsL_tryTake RL := ⟨hx, hb, hml, hown, hts⟩
  have hk := kd_take hz x1 x2 x3
  refine lv_aload_n hx hb dL_tryTake_0 rfl (lv_at hl 0 rfl) ?_
  refine lv_iload_n hx hb dL_tryTake_1 rfl (lv_at hl 1 rfl) ?_
  refine lv_iload_n hx hb dL_tryTake_2 rfl (lv_at hl 2 rfl) ?_
  refine lv_iload_n hx hb dL_tryTake_3 rfl (lv_at hl 3 rfl) ?_
  refine exV (ci := 6) (A0 := A) (As := [.int x1, .int x2, .int x3]) (rest := []) (W1 := (wSp cy xa sa sb tr na ka z)) (W2 := (wSp cy xa sa sb tr na ka (m_X8_take z x1 x2 x3).2.2)) (c_X8_take l hl0 D cy t xa sa sb tr na ka z x1 x2 x3 hz.hi hz.st) hCF gL_tryTake_X8_take rfl hq_X8_take ⟨rfl, rfl, Nat.le_of_ble_eq_true rfl, Nat.le_of_ble_eq_true rfl⟩ hG hF hP hD hS hA h_Sp rfl rfl (List.mem_of_getElem? g_Sp_0) rfl hl.1 rfl (Nat.le_of_ble_eq_true rfl) dL_tryTake_4 ⟨Nat.le_of_ble_eq_true rfl, Nat.le_of_ble_eq_true rfl⟩ (fun h0 ce q9 H locs hP hD hS h1 h2 h3 => ?_) (fun h0 H locs hP hD hS => ?_)
  · rcases hk with k0 | k0 | k0
    · exact absurd k0 (by omega)
    · rw [k0] at h3
      refine hw_catch (i := 1) hown hF (tableOf []) ⟨0, 7, 8, 13⟩ (tableOf [(0, 7, 13, 19)]) (htb.trans rfl) (fun z9 hz => absurd hz List.not_mem_nil) (by decide) (by decide) (hts (Cond.classLink RL 13 (exN 1)) (List.mem_of_getElem? (i := 1) rfl)) h1 h2 h3 ?_
      refine lv_astore (lv' := [(4, .ref q9), (0, .ref (xa 0)), (1, .int x1), (2, .int x2), (3, .int x3)]) hx hb dL_tryTake_8 hl (by decide) rfl (fun ls hl => ?_)
      refine lv_ldc (v := (-9999001 : Int32)) hx hb hown (hts (Cond.constant RL 15 (-9999001)) (List.mem_of_getElem? (i := 3) rfl)) dL_tryTake_10 ?_
      exact hw_iret hx hb hr hlocks hP hS (Nat.le_refl _) (Nat.le_refl _) dL_tryTake_12 (by rw [kV, k0]; rfl) rfl
    · rw [k0] at h3
      refine hw_catch (i := 3) hown hF (tableOf [(0, 7, 8, 13)]) ⟨0, 7, 13, 19⟩ (tableOf []) (htb.trans rfl) (fun z9 hz => by
        simp only [tableOf, List.map, List.mem_cons, List.not_mem_nil, or_false] at hz
        rcases hz with rfl
        · exact ⟨by decide, 1, hts (Cond.classLink RL 13 (exN 1)) (List.mem_of_getElem? (i := 1) rfl), by decide⟩) (by decide) (by decide) (hts (Cond.classLink RL 19 (exN 3)) (List.mem_of_getElem? (i := 2) rfl)) h1 h2 h3 ?_
      refine lv_astore (lv' := [(4, .ref q9), (0, .ref (xa 0)), (1, .int x1), (2, .int x2), (3, .int x3)]) hx hb dL_tryTake_13 hl (by decide) rfl (fun ls hl => ?_)
      refine lv_ldc (v := (-9999003 : Int32)) hx hb hown (hts (Cond.constant RL 21 (-9999003)) (List.mem_of_getElem? (i := 4) rfl)) dL_tryTake_15 ?_
      exact hw_iret hx hb hr hlocks hP hS (Nat.le_refl _) (Nat.le_refl _) dL_tryTake_17 (by rw [kV, k0]; rfl) rfl
  exact hw_iret hx hb hr hlocks hP hS (Nat.le_refl _) (Nat.le_refl _) dL_tryTake_7 (by rw [kV, if_pos h0]) rfl
set_option maxRecDepth 20000 in
theorem c_L_trySettle (l : Launch) (hl0 : l.stackTraces = false) (D : va_G) (cy : Nat → ClassId) (t : FxA) (xa sa sb tr na : Nat → Nat) (ka : Nat → Nat → Nat) {z : SpT} (hz : OKz z) (x1 : Int32) (x2 : Int32) (x3 : Int32) (x4 : Int32) : HW 8 1 6 200 l D cy t yL_trySettle wsL_trySettle (wSp cy xa sa sb tr na ka z) (wSp cy xa sa sb tr na ka (m_X8_settle z x1 x2 x3 x4).2.2) [.ref (xa 0), .int x1, .int x2, .int x3, .int x4] (kV (m_X8_settle z x1 x2 x3 x4)) := by
  refine HW.bodyW (hh := [(0, 9, 10, 13), (0, 9, 15, 19)]) (by decide) rfl (Nat.le_of_ble_eq_true rfl) ?_
  intro p e s m below meth c hx hb hml htb hr hts hown hlocks hP hG ls hl A hD hA hS hF
  have hl : lv_has ls 6 [(0, .ref (xa 0)), (1, .int x1), (2, .int x2), (3, .int x3), (4, .int x4)] := hl
  have hCF : CallFix p m c cL_trySettle 6 s ([.ref (xa 0), .int x1, .int x2, .int x3, .int x4] : List Value).toArray wsL_trySettle RL := ⟨hx, hb, hml, hown, hts⟩
  have hk := kd_settle hz x1 x2 x3 x4
  refine lv_aload_n hx hb dL_trySettle_0 rfl (lv_at hl 0 rfl) ?_
  refine lv_iload_n hx hb dL_trySettle_1 rfl (lv_at hl 1 rfl) ?_
  refine lv_iload_n hx hb dL_trySettle_2 rfl (lv_at hl 2 rfl) ?_
  refine lv_iload_n hx hb dL_trySettle_3 rfl (lv_at hl 3 rfl) ?_
  refine lv_iload hx hb dL_trySettle_4 (lv_at hl 4 rfl) ?_
  refine exV (ci := 6) (A0 := A) (As := [.int x1, .int x2, .int x3, .int x4]) (rest := []) (W1 := (wSp cy xa sa sb tr na ka z)) (W2 := (wSp cy xa sa sb tr na ka (m_X8_settle z x1 x2 x3 x4).2.2)) (c_X8_settle l hl0 D cy t xa sa sb tr na ka z x1 x2 x3 x4 hz.hi hz.st) hCF gL_trySettle_X8_settle rfl hq_X8_settle ⟨rfl, rfl, Nat.le_of_ble_eq_true rfl, Nat.le_of_ble_eq_true rfl⟩ hG hF hP hD hS hA h_Sp rfl rfl (List.mem_of_getElem? g_Sp_0) rfl hl.1 rfl (Nat.le_of_ble_eq_true rfl) dL_trySettle_6 ⟨Nat.le_of_ble_eq_true rfl, Nat.le_of_ble_eq_true rfl⟩ (fun h0 ce q9 H locs hP hD hS h1 h2 h3 => ?_) (fun h0 H locs hP hD hS => ?_)
  · rcases hk with k0 | k0 | k0
    · exact absurd k0 (by omega)
    · rw [k0] at h3
      refine hw_catch (i := 1) hown hF (tableOf []) ⟨0, 9, 10, 13⟩ (tableOf [(0, 9, 15, 19)]) (htb.trans rfl) (fun z9 hz => absurd hz List.not_mem_nil) (by decide) (by decide) (hts (Cond.classLink RL 13 (exN 1)) (List.mem_of_getElem? (i := 1) rfl)) h1 h2 h3 ?_
      refine lv_astore (lv' := [(5, .ref q9), (0, .ref (xa 0)), (1, .int x1), (2, .int x2), (3, .int x3), (4, .int x4)]) hx hb dL_trySettle_10 hl (by decide) rfl (fun ls hl => ?_)
      refine lv_ldc (v := (-9999001 : Int32)) hx hb hown (hts (Cond.constant RL 15 (-9999001)) (List.mem_of_getElem? (i := 3) rfl)) dL_trySettle_12 ?_
      exact hw_iret hx hb hr hlocks hP hS (Nat.le_refl _) (Nat.le_refl _) dL_trySettle_14 (by rw [kV, k0]; rfl) rfl
    · rw [k0] at h3
      refine hw_catch (i := 3) hown hF (tableOf [(0, 9, 10, 13)]) ⟨0, 9, 15, 19⟩ (tableOf []) (htb.trans rfl) (fun z9 hz => by
        simp only [tableOf, List.map, List.mem_cons, List.not_mem_nil, or_false] at hz
        rcases hz with rfl
        · exact ⟨by decide, 1, hts (Cond.classLink RL 13 (exN 1)) (List.mem_of_getElem? (i := 1) rfl), by decide⟩) (by decide) (by decide) (hts (Cond.classLink RL 19 (exN 3)) (List.mem_of_getElem? (i := 2) rfl)) h1 h2 h3 ?_
      refine lv_astore (lv' := [(5, .ref q9), (0, .ref (xa 0)), (1, .int x1), (2, .int x2), (3, .int x3), (4, .int x4)]) hx hb dL_trySettle_15 hl (by decide) rfl (fun ls hl => ?_)
      refine lv_ldc (v := (-9999003 : Int32)) hx hb hown (hts (Cond.constant RL 21 (-9999003)) (List.mem_of_getElem? (i := 4) rfl)) dL_trySettle_17 ?_
      exact hw_iret hx hb hr hlocks hP hS (Nat.le_refl _) (Nat.le_refl _) dL_trySettle_19 (by rw [kV, k0]; rfl) rfl
  exact hw_iret hx hb hr hlocks hP hS (Nat.le_refl _) (Nat.le_refl _) dL_trySettle_9 (by rw [kV, if_pos h0]) rfl
set_option maxRecDepth 20000 in
theorem c_L_tryBuy (l : Launch) (hl0 : l.stackTraces = false) (D : va_G) (cy : Nat → ClassId) (t : FxA) (xa sa sb tr na : Nat → Nat) (ka : Nat → Nat → Nat) {z : SpT} (hz : OKz z) (x1 : Int32) (x2 : Int32) : HW 8 1 6 200 l D cy t yL_tryBuy wsL_tryBuy (wSp cy xa sa sb tr na ka z) (wSp cy xa sa sb tr na ka (m_X8_buy z x1 x2).2.2) [.ref (xa 0), .int x1, .int x2] (kV (m_X8_buy z x1 x2)) := by
  refine HW.bodyW (hh := [(0, 6, 7, 13), (0, 6, 11, 19)]) (by decide) rfl (Nat.le_of_ble_eq_true rfl) ?_
  intro p e s m below meth c hx hb hml htb hr hts hown hlocks hP hG ls hl A hD hA hS hF
  have hl : lv_has ls 4 [(0, .ref (xa 0)), (1, .int x1), (2, .int x2)] := hl
  have hCF : CallFix p m c cL_tryBuy 4 s ([.ref (xa 0), .int x1, .int x2] : List Value).toArray wsL_tryBuy RL := ⟨hx, hb, hml, hown, hts⟩
  have hk := kd_buy hz x1 x2
  refine lv_aload_n hx hb dL_tryBuy_0 rfl (lv_at hl 0 rfl) ?_
  refine lv_iload_n hx hb dL_tryBuy_1 rfl (lv_at hl 1 rfl) ?_
  refine lv_iload_n hx hb dL_tryBuy_2 rfl (lv_at hl 2 rfl) ?_
  refine exV (ci := 6) (A0 := A) (As := [.int x1, .int x2]) (rest := []) (W1 := (wSp cy xa sa sb tr na ka z)) (W2 := (wSp cy xa sa sb tr na ka (m_X8_buy z x1 x2).2.2)) (c_X8_buy l hl0 D cy t xa sa sb tr na ka z x1 x2 hz.hi hz.st) hCF gL_tryBuy_X8_buy rfl hq_X8_buy ⟨rfl, rfl, Nat.le_of_ble_eq_true rfl, Nat.le_of_ble_eq_true rfl⟩ hG hF hP hD hS hA h_Sp rfl rfl (List.mem_of_getElem? g_Sp_0) rfl hl.1 rfl (Nat.le_of_ble_eq_true rfl) dL_tryBuy_3 ⟨Nat.le_of_ble_eq_true rfl, Nat.le_of_ble_eq_true rfl⟩ (fun h0 ce q9 H locs hP hD hS h1 h2 h3 => ?_) (fun h0 H locs hP hD hS => ?_)
  · rcases hk with k0 | k0 | k0
    · exact absurd k0 (by omega)
    · rw [k0] at h3
      refine hw_catch (i := 1) hown hF (tableOf []) ⟨0, 6, 7, 13⟩ (tableOf [(0, 6, 11, 19)]) (htb.trans rfl) (fun z9 hz => absurd hz List.not_mem_nil) (by decide) (by decide) (hts (Cond.classLink RL 13 (exN 1)) (List.mem_of_getElem? (i := 1) rfl)) h1 h2 h3 ?_
      refine lv_astore_n (lv' := [(3, .ref q9), (0, .ref (xa 0)), (1, .int x1), (2, .int x2)]) hx hb dL_tryBuy_7 rfl hl (by decide) rfl (fun ls hl => ?_)
      refine lv_ldc (v := (-9999001 : Int32)) hx hb hown (hts (Cond.constant RL 15 (-9999001)) (List.mem_of_getElem? (i := 3) rfl)) dL_tryBuy_8 ?_
      exact hw_iret hx hb hr hlocks hP hS (Nat.le_refl _) (Nat.le_refl _) dL_tryBuy_10 (by rw [kV, k0]; rfl) rfl
    · rw [k0] at h3
      refine hw_catch (i := 3) hown hF (tableOf [(0, 6, 7, 13)]) ⟨0, 6, 11, 19⟩ (tableOf []) (htb.trans rfl) (fun z9 hz => by
        simp only [tableOf, List.map, List.mem_cons, List.not_mem_nil, or_false] at hz
        rcases hz with rfl
        · exact ⟨by decide, 1, hts (Cond.classLink RL 13 (exN 1)) (List.mem_of_getElem? (i := 1) rfl), by decide⟩) (by decide) (by decide) (hts (Cond.classLink RL 19 (exN 3)) (List.mem_of_getElem? (i := 2) rfl)) h1 h2 h3 ?_
      refine lv_astore_n (lv' := [(3, .ref q9), (0, .ref (xa 0)), (1, .int x1), (2, .int x2)]) hx hb dL_tryBuy_11 rfl hl (by decide) rfl (fun ls hl => ?_)
      refine lv_ldc (v := (-9999003 : Int32)) hx hb hown (hts (Cond.constant RL 21 (-9999003)) (List.mem_of_getElem? (i := 4) rfl)) dL_tryBuy_12 ?_
      exact hw_iret hx hb hr hlocks hP hS (Nat.le_refl _) (Nat.le_refl _) dL_tryBuy_14 (by rw [kV, k0]; rfl) rfl
  exact hw_iret hx hb hr hlocks hP hS (Nat.le_refl _) (Nat.le_refl _) dL_tryBuy_6 (by rw [kV, if_pos h0]) rfl
set_option maxRecDepth 20000 in
theorem c_L_tryDays (l : Launch) (hl0 : l.stackTraces = false) (D : va_G) (cy : Nat → ClassId) (t : FxA) (xa sa sb tr na : Nat → Nat) (ka : Nat → Nat → Nat) {z : SpT} (hz : OKz z) (x1 : Int32) : HW 8 1 6 200 l D cy t yL_tryDays wsL_tryDays (wSp cy xa sa sb tr na ka z) (wSp cy xa sa sb tr na ka (m_X8_days z x1).2.2) [.ref (xa 0), .int x1] (kV (m_X8_days z x1)) := by
  refine HW.bodyW (hh := [(0, 5, 6, 26)]) (by decide) rfl (Nat.le_of_ble_eq_true rfl) ?_
  intro p e s m below meth c hx hb hml htb hr hts hown hlocks hP hG ls hl A hD hA hS hF
  have hl : lv_has ls 3 [(0, .ref (xa 0)), (1, .int x1)] := hl
  have hCF : CallFix p m c cL_tryDays 3 s ([.ref (xa 0), .int x1] : List Value).toArray wsL_tryDays RL := ⟨hx, hb, hml, hown, hts⟩
  have hk := kd_days hz x1
  refine lv_aload_n hx hb dL_tryDays_0 rfl (lv_at hl 0 rfl) ?_
  refine lv_iload_n hx hb dL_tryDays_1 rfl (lv_at hl 1 rfl) ?_
  refine exV (ci := 6) (A0 := A) (As := [.int x1]) (rest := []) (W1 := (wSp cy xa sa sb tr na ka z)) (W2 := (wSp cy xa sa sb tr na ka (m_X8_days z x1).2.2)) (c_X8_days l hl0 D cy t xa sa sb tr na ka z x1 hz.hi hz.st) hCF gL_tryDays_X8_days rfl hq_X8_days ⟨rfl, rfl, Nat.le_of_ble_eq_true rfl, Nat.le_of_ble_eq_true rfl⟩ hG hF hP hD hS hA h_Sp rfl rfl (List.mem_of_getElem? g_Sp_0) rfl hl.1 rfl (Nat.le_of_ble_eq_true rfl) dL_tryDays_2 ⟨Nat.le_of_ble_eq_true rfl, Nat.le_of_ble_eq_true rfl⟩ (fun h0 ce q9 H locs hP hD hS h1 h2 h3 => ?_) (fun h0 H locs hP hD hS => ?_)
  · rcases hk with k0 | k0
    · exact absurd k0 (by omega)
    · rw [k0] at h3
      refine hw_catch (i := 2) hown hF (tableOf []) ⟨0, 5, 6, 26⟩ (tableOf []) (htb.trans rfl) (fun z9 hz => absurd hz List.not_mem_nil) (by decide) (by decide) (hts (Cond.classLink RL 26 (exN 2)) (List.mem_of_getElem? (i := 1) rfl)) h1 h2 h3 ?_
      refine lv_astore_n (lv' := [(2, .ref q9), (0, .ref (xa 0)), (1, .int x1)]) hx hb dL_tryDays_6 rfl hl (by decide) rfl (fun ls hl => ?_)
      refine lv_ldc (v := (-9999002 : Int32)) hx hb hown (hts (Cond.constant RL 28 (-9999002)) (List.mem_of_getElem? (i := 2) rfl)) dL_tryDays_7 ?_
      exact hw_iret hx hb hr hlocks hP hS (Nat.le_refl _) (Nat.le_refl _) dL_tryDays_9 (by rw [kV, k0]; rfl) rfl
  exact hw_iret hx hb hr hlocks hP hS (Nat.le_refl _) (Nat.le_refl _) dL_tryDays_5 (by rw [kV, if_pos h0]) rfl
set_option maxRecDepth 20000 in
theorem c_L_trySet (l : Launch) (hl0 : l.stackTraces = false) (D : va_G) (cy : Nat → ClassId) (t : FxA) (xa sa sb tr na : Nat → Nat) (ka : Nat → Nat → Nat) {z : SpT} (hz : OKz z) (x1 : Int32) (x2 : Int32) : HW 8 1 6 200 l D cy t yL_trySet wsL_trySet (wSp cy xa sa sb tr na ka z) (wSp cy xa sa sb tr na ka (m_X8_set z x1 x2).2.2) [.ref (xa 0), .int x1, .int x2] (kV (m_X8_set z x1 x2)) := by
  refine HW.bodyW (hh := [(0, 6, 7, 26)]) (by decide) rfl (Nat.le_of_ble_eq_true rfl) ?_
  intro p e s m below meth c hx hb hml htb hr hts hown hlocks hP hG ls hl A hD hA hS hF
  have hl : lv_has ls 4 [(0, .ref (xa 0)), (1, .int x1), (2, .int x2)] := hl
  have hCF : CallFix p m c cL_trySet 4 s ([.ref (xa 0), .int x1, .int x2] : List Value).toArray wsL_trySet RL := ⟨hx, hb, hml, hown, hts⟩
  have hk := kd_set hz x1 x2
  refine lv_aload_n hx hb dL_trySet_0 rfl (lv_at hl 0 rfl) ?_
  refine lv_iload_n hx hb dL_trySet_1 rfl (lv_at hl 1 rfl) ?_
  refine lv_iload_n hx hb dL_trySet_2 rfl (lv_at hl 2 rfl) ?_
  refine exV (ci := 6) (A0 := A) (As := [.int x1, .int x2]) (rest := []) (W1 := (wSp cy xa sa sb tr na ka z)) (W2 := (wSp cy xa sa sb tr na ka (m_X8_set z x1 x2).2.2)) (c_X8_set l hl0 D cy t xa sa sb tr na ka z x1 x2 hz.hi hz.st) hCF gL_trySet_X8_set rfl hq_X8_set ⟨rfl, rfl, Nat.le_of_ble_eq_true rfl, Nat.le_of_ble_eq_true rfl⟩ hG hF hP hD hS hA h_Sp rfl rfl (List.mem_of_getElem? g_Sp_0) rfl hl.1 rfl (Nat.le_of_ble_eq_true rfl) dL_trySet_3 ⟨Nat.le_of_ble_eq_true rfl, Nat.le_of_ble_eq_true rfl⟩ (fun h0 ce q9 H locs hP hD hS h1 h2 h3 => ?_) (fun h0 H locs hP hD hS => ?_)
  · rcases hk with k0 | k0
    · exact absurd k0 (by omega)
    · rw [k0] at h3
      refine hw_catch (i := 2) hown hF (tableOf []) ⟨0, 6, 7, 26⟩ (tableOf []) (htb.trans rfl) (fun z9 hz => absurd hz List.not_mem_nil) (by decide) (by decide) (hts (Cond.classLink RL 26 (exN 2)) (List.mem_of_getElem? (i := 1) rfl)) h1 h2 h3 ?_
      refine lv_astore_n (lv' := [(3, .ref q9), (0, .ref (xa 0)), (1, .int x1), (2, .int x2)]) hx hb dL_trySet_7 rfl hl (by decide) rfl (fun ls hl => ?_)
      refine lv_ldc (v := (-9999002 : Int32)) hx hb hown (hts (Cond.constant RL 28 (-9999002)) (List.mem_of_getElem? (i := 2) rfl)) dL_trySet_8 ?_
      exact hw_iret hx hb hr hlocks hP hS (Nat.le_refl _) (Nat.le_refl _) dL_trySet_10 (by rw [kV, k0]; rfl) rfl
  exact hw_iret hx hb hr hlocks hP hS (Nat.le_refl _) (Nat.le_refl _) dL_trySet_6 (by rw [kV, if_pos h0]) rfl
set_option maxRecDepth 20000 in
theorem c_L_tryUndo (l : Launch) (hl0 : l.stackTraces = false) (D : va_G) (cy : Nat → ClassId) (t : FxA) (xa sa sb tr na : Nat → Nat) (ka : Nat → Nat → Nat) {z : SpT} (hz : OKz z) : HW 8 1 6 200 l D cy t yL_tryUndo wsL_tryUndo (wSp cy xa sa sb tr na ka z) (wSp cy xa sa sb tr na ka (m_X8_undo z).2.2) [.ref (xa 0)] (kV (m_X8_undo z)) := by
  refine HW.bodyW (hh := [(0, 4, 5, 19)]) (by decide) rfl (Nat.le_of_ble_eq_true rfl) ?_
  intro p e s m below meth c hx hb hml htb hr hts hown hlocks hP hG ls hl A hD hA hS hF
  have hl : lv_has ls 2 [(0, .ref (xa 0))] := hl
  have hCF : CallFix p m c cL_tryUndo 2 s ([.ref (xa 0)] : List Value).toArray wsL_tryUndo RL := ⟨hx, hb, hml, hown, hts⟩
  have hk := kd_undo hz
  refine lv_aload_n hx hb dL_tryUndo_0 rfl (lv_at hl 0 rfl) ?_
  refine exV (ci := 6) (A0 := A) (As := []) (rest := []) (W1 := (wSp cy xa sa sb tr na ka z)) (W2 := (wSp cy xa sa sb tr na ka (m_X8_undo z).2.2)) (c_X8_undo l hl0 D cy t xa sa sb tr na ka z hz.hi) hCF gL_tryUndo_X8_undo rfl hq_X8_undo ⟨rfl, rfl, Nat.le_of_ble_eq_true rfl, Nat.le_of_ble_eq_true rfl⟩ hG hF hP hD hS hA h_Sp rfl rfl (List.mem_of_getElem? g_Sp_0) rfl hl.1 rfl (Nat.le_of_ble_eq_true rfl) dL_tryUndo_1 ⟨Nat.le_of_ble_eq_true rfl, Nat.le_of_ble_eq_true rfl⟩ (fun h0 ce q9 H locs hP hD hS h1 h2 h3 => ?_) (fun h0 H locs hP hD hS => ?_)
  · rcases hk with k0 | k0
    · exact absurd k0 (by omega)
    · rw [k0] at h3
      refine hw_catch (i := 3) hown hF (tableOf []) ⟨0, 4, 5, 19⟩ (tableOf []) (htb.trans rfl) (fun z9 hz => absurd hz List.not_mem_nil) (by decide) (by decide) (hts (Cond.classLink RL 19 (exN 3)) (List.mem_of_getElem? (i := 1) rfl)) h1 h2 h3 ?_
      refine lv_astore_n (lv' := [(1, .ref q9), (0, .ref (xa 0))]) hx hb dL_tryUndo_5 rfl hl (by decide) rfl (fun ls hl => ?_)
      refine lv_ldc (v := (-9999003 : Int32)) hx hb hown (hts (Cond.constant RL 21 (-9999003)) (List.mem_of_getElem? (i := 2) rfl)) dL_tryUndo_6 ?_
      exact hw_iret hx hb hr hlocks hP hS (Nat.le_refl _) (Nat.le_refl _) dL_tryUndo_8 (by rw [kV, k0]; rfl) rfl
  exact hw_iret hx hb hr hlocks hP hS (Nat.le_refl _) (Nat.le_refl _) dL_tryUndo_4 (by rw [kV, if_pos h0]) rfl
