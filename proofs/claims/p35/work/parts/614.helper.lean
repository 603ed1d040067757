/-! helpers of the law -/
set_option maxRecDepth 20000 in
theorem c_L_tryAppend (l : Launch) (hl0 : l.stackTraces = false) (D : va_G) (cy : Nat → ClassId) (t : FxA) (xa sa sb tr na : Nat → Nat) (ka : Nat → Nat → Nat) {z : SpT} (hz : OKz z) (x1 : Int32) : HW 8 1 6 200 l D cy t yL_tryAppend wsL_tryAppend (wSp cy xa sa sb tr na ka z) (wSp cy xa sa sb tr na ka (m_X8_append z x1).2.2) [.ref (xa 0), .int x1] (kV (m_X8_append z x1)) := by
  refine HW.bodyW (hh := [(0, 5, 6, 26), (0, 5, 10, 19)]) (by decide) rfl (Nat.le_of_ble_eq_true rfl) ?_
  intro p e s m below meth c hx hb hml htb hr hts hown hlocks hP hG ls hl A hD hA hS hF
  have hl : lv_has ls 3 [(0, .ref (xa 0)), (1, .int x1)] := hl
  have hCF : CallFix p m c cL_tryAppend 3 s ([.ref (xa 0), .int x1] : List Value).toArray wsL_tryAppend RL := ⟨hx, hb, hml, hown, hts⟩
  have hk := kd_append hz x1
  refine lv_aload_n hx hb dL_tryAppend_0 rfl (lv_at hl 0 rfl) ?_
  refine lv_iload_n hx hb dL_tryAppend_1 rfl (lv_at hl 1 rfl) ?_
  refine exV (ci := 6) (A0 := A) (As := [.int x1]) (rest := []) (W1 := (wSp cy xa sa sb tr na ka z)) (W2 := (wSp cy xa sa sb tr na ka (m_X8_append z x1).2.2)) (c_X8_append l hl0 D cy t xa sa sb tr na ka z x1 hz.tl) hCF gL_tryAppend_X8_append rfl hq_X8_append ⟨rfl, rfl, Nat.le_of_ble_eq_true rfl, Nat.le_of_ble_eq_true rfl⟩ hG hF hP hD hS hA h_Sp rfl rfl (List.mem_of_getElem? g_Sp_0) rfl hl.1 rfl (Nat.le_of_ble_eq_true rfl) dL_tryAppend_2 ⟨Nat.le_of_ble_eq_true rfl, Nat.le_of_ble_eq_true rfl⟩ (fun h0 ce q9 H locs hP hD hS h1 h2 h3 => ?_) (fun h0 H locs hP hD hS => ?_)
  · rcases hk with k0 | k0 | k0
    · exact absurd k0 (by omega)
    · rw [k0] at h3
      refine hw_catch (i := 2) hown hF (tableOf []) ⟨0, 5, 6, 26⟩ (tableOf [(0, 5, 10, 19)]) (htb.trans rfl) (fun z9 hz => absurd hz List.not_mem_nil) (by decide) (by decide) (hts (Cond.classLink RL 26 (exN 2)) (List.mem_of_getElem? (i := 1) rfl)) h1 h2 h3 ?_
      refine lv_astore_n (lv' := [(2, .ref q9), (0, .ref (xa 0)), (1, .int x1)]) hx hb dL_tryAppend_6 rfl hl (by decide) rfl (fun ls hl => ?_)
      refine lv_ldc (v := (-9999002 : Int32)) hx hb hown (hts (Cond.constant RL 28 (-9999002)) (List.mem_of_getElem? (i := 3) rfl)) dL_tryAppend_7 ?_
      exact hw_iret hx hb hr hlocks hP hS (Nat.le_refl _) (Nat.le_refl _) dL_tryAppend_9 (by rw [kV, k0]; rfl) rfl
    · rw [k0] at h3
      refine hw_catch (i := 3) hown hF (tableOf [(0, 5, 6, 26)]) ⟨0, 5, 10, 19⟩ (tableOf []) (htb.trans rfl) (fun z9 hz => by
        simp only [tableOf, List.map, List.mem_cons, List.not_mem_nil, or_false] at hz
        rcases hz with rfl
        · exact ⟨by decide, 2, hts (Cond.classLink RL 26 (exN 2)) (List.mem_of_getElem? (i := 1) rfl), by decide⟩) (by decide) (by decide) (hts (Cond.classLink RL 19 (exN 3)) (List.mem_of_getElem? (i := 2) rfl)) h1 h2 h3 ?_
      refine lv_astore_n (lv' := [(2, .ref q9), (0, .ref (xa 0)), (1, .int x1)]) hx hb dL_tryAppend_10 rfl hl (by decide) rfl (fun ls hl => ?_)
      refine lv_ldc (v := (-9999003 : Int32)) hx hb hown (hts (Cond.constant RL 21 (-9999003)) (List.mem_of_getElem? (i := 4) rfl)) dL_tryAppend_11 ?_
      exact hw_iret hx hb hr hlocks hP hS (Nat.le_refl _) (Nat.le_refl _) dL_tryAppend_13 (by rw [kV, k0]; rfl) rfl
  exact hw_iret hx hb hr hlocks hP hS (Nat.le_refl _) (Nat.le_refl _) dL_tryAppend_5 (by rw [kV, if_pos h0]) rfl
set_option maxRecDepth 20000 in
theorem c_L_tryLoad (l : Launch) (hl0 : l.stackTraces = false) (D : va_G) (cy : Nat → ClassId) (t : FxA) (xa sa sb tr na : Nat → Nat) (ka : Nat → Nat → Nat) {z : SpT} (hz : OKz z) : HW 8 1 6 200 l D cy t yL_tryLoad wsL_tryLoad (wSp cy xa sa sb tr na ka z) (wSp cy xa sa sb tr na ka (m_X8_load z).2.2) [.ref (xa 0)] (kV (m_X8_load z)) := by
  refine HW.bodyW (hh := [(0, 4, 5, 19)]) (by decide) rfl (Nat.le_of_ble_eq_true rfl) ?_
  intro p e s m below meth c hx hb hml htb hr hts hown hlocks hP hG ls hl A hD hA hS hF
  have hl : lv_has ls 2 [(0, .ref (xa 0))] := hl
  have hCF : CallFix p m c cL_tryLoad 2 s ([.ref (xa 0)] : List Value).toArray wsL_tryLoad RL := ⟨hx, hb, hml, hown, hts⟩
  have hk := kd_load hz
  refine lv_aload_n hx hb dL_tryLoad_0 rfl (lv_at hl 0 rfl) ?_
  refine exV (ci := 6) (A0 := A) (As := []) (rest := []) (W1 := (wSp cy xa sa sb tr na ka z)) (W2 := (wSp cy xa sa sb tr na ka (m_X8_load z).2.2)) (c_X8_load l hl0 D cy t xa sa sb tr na ka z hz.tl hz.st) hCF gL_tryLoad_X8_load rfl hq_X8_load ⟨rfl, rfl, Nat.le_of_ble_eq_true rfl, Nat.le_of_ble_eq_true rfl⟩ hG hF hP hD hS hA h_Sp rfl rfl (List.mem_of_getElem? g_Sp_0) rfl hl.1 rfl (Nat.le_of_ble_eq_true rfl) dL_tryLoad_1 ⟨Nat.le_of_ble_eq_true rfl, Nat.le_of_ble_eq_true rfl⟩ (fun h0 ce q9 H locs hP hD hS h1 h2 h3 => ?_) (fun h0 H locs hP hD hS => ?_)
  · rcases hk with k0 | k0
    · exact absurd k0 (by omega)
    · rw [k0] at h3
      refine hw_catch (i := 3) hown hF (tableOf []) ⟨0, 4, 5, 19⟩ (tableOf []) (htb.trans rfl) (fun z9 hz => absurd hz List.not_mem_nil) (by decide) (by decide) (hts (Cond.classLink RL 19 (exN 3)) (List.mem_of_getElem? (i := 1) rfl)) h1 h2 h3 ?_
      refine lv_astore_n (lv' := [(1, .ref q9), (0, .ref (xa 0))]) hx hb dL_tryLoad_5 rfl hl (by decide) rfl (fun ls hl => ?_)
      refine lv_ldc (v := (-9999003 : Int32)) hx hb hown (hts (Cond.constant RL 21 (-9999003)) (List.mem_of_getElem? (i := 2) rfl)) dL_tryLoad_6 ?_
      exact hw_iret hx hb hr hlocks hP hS (Nat.le_refl _) (Nat.le_refl _) dL_tryLoad_8 (by rw [kV, k0]; rfl) rfl
  exact hw_iret hx hb hr hlocks hP hS (Nat.le_refl _) (Nat.le_refl _) dL_tryLoad_4 (by rw [kV, if_pos h0]) rfl
set_option maxRecDepth 20000 in
theorem c_L_tryAbout (l : Launch) (hl0 : l.stackTraces = false) (D : va_G) (cy : Nat → ClassId) (t : FxA) (xa sa sb tr na : Nat → Nat) (ka : Nat → Nat → Nat) {z : SpT} (hz : OKz z) (x1 : Int32) : HW 8 1 6 200 l D cy t yL_tryAbout wsL_tryAbout (wSp cy xa sa sb tr na ka z) (wSp cy xa sa sb tr na ka (m_X8_about z x1).2.2) [.ref (xa 0), .int x1] (kV (m_X8_about z x1)) := by
  refine HW.bodyW (hh := [(0, 5, 6, 26)]) (by decide) rfl (Nat.le_of_ble_eq_true rfl) ?_
  intro p e s m below meth c hx hb hml htb hr hts hown hlocks hP hG ls hl A hD hA hS hF
  have hl : lv_has ls 3 [(0, .ref (xa 0)), (1, .int x1)] := hl
  have hCF : CallFix p m c cL_tryAbout 3 s ([.ref (xa 0), .int x1] : List Value).toArray wsL_tryAbout RL := ⟨hx, hb, hml, hown, hts⟩
  have hk := kd_about hz x1
  refine lv_aload_n hx hb dL_tryAbout_0 rfl (lv_at hl 0 rfl) ?_
  refine lv_iload_n hx hb dL_tryAbout_1 rfl (lv_at hl 1 rfl) ?_
  refine exV (ci := 6) (A0 := A) (As := [.int x1]) (rest := []) (W1 := (wSp cy xa sa sb tr na ka z)) (W2 := (wSp cy xa sa sb tr na ka (m_X8_about z x1).2.2)) (c_X8_about l hl0 D cy t xa sa sb tr na ka z x1 hz.st) hCF gL_tryAbout_X8_about rfl hq_X8_about ⟨rfl, rfl, Nat.le_of_ble_eq_true rfl, Nat.le_of_ble_eq_true rfl⟩ hG hF hP hD hS hA h_Sp rfl rfl (List.mem_of_getElem? g_Sp_0) rfl hl.1 rfl (Nat.le_of_ble_eq_true rfl) dL_tryAbout_2 ⟨Nat.le_of_ble_eq_true rfl, Nat.le_of_ble_eq_true rfl⟩ (fun h0 ce q9 H locs hP hD hS h1 h2 h3 => ?_) (fun h0 H locs hP hD hS => ?_)
  · rcases hk with k0 | k0
    · exact absurd k0 (by omega)
    · rw [k0] at h3
      refine hw_catch (i := 2) hown hF (tableOf []) ⟨0, 5, 6, 26⟩ (tableOf []) (htb.trans rfl) (fun z9 hz => absurd hz List.not_mem_nil) (by decide) (by decide) (hts (Cond.classLink RL 26 (exN 2)) (List.mem_of_getElem? (i := 1) rfl)) h1 h2 h3 ?_
      refine lv_astore_n (lv' := [(2, .ref q9), (0, .ref (xa 0)), (1, .int x1)]) hx hb dL_tryAbout_6 rfl hl (by decide) rfl (fun ls hl => ?_)
      refine lv_ldc (v := (-9999002 : Int32)) hx hb hown (hts (Cond.constant RL 28 (-9999002)) (List.mem_of_getElem? (i := 2) rfl)) dL_tryAbout_7 ?_
      exact hw_iret hx hb hr hlocks hP hS (Nat.le_refl _) (Nat.le_refl _) dL_tryAbout_9 (by rw [kV, k0]; rfl) rfl
  exact hw_iret hx hb hr hlocks hP hS (Nat.le_refl _) (Nat.le_refl _) dL_tryAbout_5 (by rw [kV, if_pos h0]) rfl
set_option maxRecDepth 20000 in
theorem c_L_tryUnit (l : Launch) (hl0 : l.stackTraces = false) (D : va_G) (cy : Nat → ClassId) (t : FxA) (xa sa sb tr na : Nat → Nat) (ka : Nat → Nat → Nat) {z : SpT} (hz : OKz z) (x1 : Int32) (x2 : Int32) : HW 8 1 6 200 l D cy t yL_tryUnit wsL_tryUnit (wSp cy xa sa sb tr na ka z) (wSp cy xa sa sb tr na ka (m_X8_unit z x1 x2).2.2) [.ref (xa 0), .int x1, .int x2] (kV (m_X8_unit z x1 x2)) := by
  refine HW.bodyW (hh := [(0, 6, 7, 13), (0, 6, 11, 26)]) (by decide) rfl (Nat.le_of_ble_eq_true rfl) ?_
  intro p e s m below meth c hx hb hml htb hr hts hown hlocks hP hG ls hl A hD hA hS hF
  have hl : lv_has ls 4 [(0, .ref (xa 0)), (1, .int x1), (2, .int x2)] := hl
  have hCF : CallFix p m c cL_tryUnit 4 s ([.ref (xa 0), .int x1, .int x2] : List Value).toArray wsL_tryUnit RL := ⟨hx, hb, hml, hown, hts⟩
  have hk := kd_unit hz x1 x2
  refine lv_aload_n hx hb dL_tryUnit_0 rfl (lv_at hl 0 rfl) ?_
  refine lv_iload_n hx hb dL_tryUnit_1 rfl (lv_at hl 1 rfl) ?_
  refine lv_iload_n hx hb dL_tryUnit_2 rfl (lv_at hl 2 rfl) ?_
  refine exV (ci := 6) (A0 := A) (As := [.int x1, .int x2]) (rest := []) (W1 := (wSp cy xa sa sb tr na ka z)) (W2 := (wSp cy xa sa sb tr na ka (m_X8_unit z x1 x2).2.2)) (c_X8_unit l hl0 D cy t xa sa sb tr na ka z x1 x2 hz.st) hCF gL_tryUnit_X8_unit rfl hq_X8_unit ⟨rfl, rfl, Nat.le_of_ble_eq_true rfl, Nat.le_of_ble_eq_true rfl⟩ hG hF hP hD hS hA h_Sp rfl rfl (List.mem_of_getElem? g_Sp_0) rfl hl.1 rfl (Nat.le_of_ble_eq_true rfl) dL_tryUnit_3 ⟨Nat.le_of_ble_eq_true rfl, Nat.le_of_ble_eq_true rfl⟩ (fun h0 ce q9 H locs hP hD hS h1 h2 h3 => ?_) (fun h0 H locs hP hD hS => ?_)
  · rcases hk with k0 | k0 | k0
    · exact absurd k0 (by omega)
    · rw [k0] at h3
      refine hw_catch (i := 1) hown hF (tableOf []) ⟨0, 6, 7, 13⟩ (tableOf [(0, 6, 11, 26)]) (htb.trans rfl) (fun z9 hz => absurd hz List.not_mem_nil) (by decide) (by decide) (hts (Cond.classLink RL 13 (exN 1)) (List.mem_of_getElem? (i := 1) rfl)) h1 h2 h3 ?_
      refine lv_astore_n (lv' := [(3, .ref q9), (0, .ref (xa 0)), (1, .int x1), (2, .int x2)]) hx hb dL_tryUnit_7 rfl hl (by decide) rfl (fun ls hl => ?_)
      refine lv_ldc (v := (-9999001 : Int32)) hx hb hown (hts (Cond.constant RL 15 (-9999001)) (List.mem_of_getElem? (i := 3) rfl)) dL_tryUnit_8 ?_
      exact hw_iret hx hb hr hlocks hP hS (Nat.le_refl _) (Nat.le_refl _) dL_tryUnit_10 (by rw [kV, k0]; rfl) rfl
    · rw [k0] at h3
      refine hw_catch (i := 2) hown hF (tableOf [(0, 6, 7, 13)]) ⟨0, 6, 11, 26⟩ (tableOf []) (htb.trans rfl) (fun z9 hz => by
        simp only [tableOf, List.map, List.mem_cons, List.not_mem_nil, or_false] at hz
        rcases hz with rfl
        · exact ⟨by decide, 1, hts (Cond.classLink RL 13 (exN 1)) (List.mem_of_getElem? (i := 1) rfl), by decide⟩) (by decide) (by decide) (hts (Cond.classLink RL 26 (exN 2)) (List.mem_of_getElem? (i := 2) rfl)) h1 h2 h3 ?_
      refine lv_astore_n (lv' := [(3, .ref q9), (0, .ref (xa 0)), (1, .int x1), (2, .int x2)]) hx hb dL_tryUnit_11 rfl hl (by decide) rfl (fun ls hl => ?_)
      refine lv_ldc (v := (-9999002 : Int32)) hx hb hown (hts (Cond.constant RL 28 (-9999002)) (List.mem_of_getElem? (i := 4) rfl)) dL_tryUnit_12 ?_
      exact hw_iret hx hb hr hlocks hP hS (Nat.le_refl _) (Nat.le_refl _) dL_tryUnit_14 (by rw [kV, k0]; rfl) rfl
  exact hw_iret hx hb hr hlocks hP hS (Nat.le_refl _) (Nat.le_refl _) dL_tryUnit_6 (by rw [kV, if_pos h0]) rfl
set_option maxRecDepth 20000 in
theorem c_L_tryHolder (l : Launch) (hl0 : l.stackTraces = false) (D : va_G) (cy : Nat → ClassId) (t : FxA) (xa sa sb tr na : Nat → Nat) (ka : Nat → Nat → Nat) {z : SpT} (hz : OKz z) (x1 : Int32) (x2 : Int32) : HW 8 1 6 200 l D cy t yL_tryHolder wsL_tryHolder (wSp cy xa sa sb tr na ka z) (wSp cy xa sa sb tr na ka (m_X8_holder z x1 x2).2.2) [.ref (xa 0), .int x1, .int x2] (kV (m_X8_holder z x1 x2)) := by
  refine HW.bodyW (hh := [(0, 6, 7, 13), (0, 6, 11, 26)]) (by decide) rfl (Nat.le_of_ble_eq_true rfl) ?_
  intro p e s m below meth c hx hb hml htb hr hts hown hlocks hP hG ls hl A hD hA hS hF
  have hl : lv_has ls 4 [(0, .ref (xa 0)), (1, .int x1), (2, .int x2)] := hl
  have hCF : CallFix p m c cL_tryHolder 4 s ([.ref (xa 0), .int x1, .int x2] : List Value).toArray wsL_tryHolder RL := ⟨hx, hb, hml, hown, hts⟩
  have hk := kd_holder hz x1 x2
  refine lv_aload_n hx hb dL_tryHolder_0 rfl (lv_at hl 0 rfl) ?_
  refine lv_iload_n hx hb dL_tryHolder_1 rfl (lv_at hl 1 rfl) ?_
  refine lv_iload_n hx hb dL_tryHolder_2 rfl (lv_at hl 2 rfl) ?_
  refine exV (ci := 6) (A0 := A) (As := [.int x1, .int x2]) (rest := []) (W1 := (wSp cy xa sa sb tr na ka z)) (W2 := (wSp cy xa sa sb tr na ka (m_X8_holder z x1 x2).2.2)) (c_X8_holder l hl0 D cy t xa sa sb tr na ka z x1 x2 hz.st) hCF gL_tryHolder_X8_holder rfl hq_X8_holder ⟨rfl, rfl, Nat.le_of_ble_eq_true rfl, Nat.le_of_ble_eq_true rfl⟩ hG hF hP hD hS hA h_Sp rfl rfl (List.mem_of_getElem? g_Sp_0) rfl hl.1 rfl (Nat.le_of_ble_eq_true rfl) dL_tryHolder_3 ⟨Nat.le_of_ble_eq_true rfl, Nat.le_of_ble_eq_true rfl⟩ (fun h0 ce q9 H locs hP hD hS h1 h2 h3 => ?_) (fun h0 H locs hP hD hS => ?_)
  · rcases hk with k0 | k0 | k0
    · exact absurd k0 (by omega)
    · rw [k0] at h3
      refine hw_catch (i := 1) hown hF (tableOf []) ⟨0, 6, 7, 13⟩ (tableOf [(0, 6, 11, 26)]) (htb.trans rfl) (fun z9 hz => absurd hz List.not_mem_nil) (by decide) (by decide) (hts (Cond.classLink RL 13 (exN 1)) (List.mem_of_getElem? (i := 1) rfl)) h1 h2 h3 ?_
      refine lv_astore_n (lv' := [(3, .ref q9), (0, .ref (xa 0)), (1, .int x1), (2, .int x2)]) hx hb dL_tryHolder_7 rfl hl (by decide) rfl (fun ls hl => ?_)
      refine lv_ldc (v := (-9999001 : Int32)) hx hb hown (hts (Cond.constant RL 15 (-9999001)) (List.mem_of_getElem? (i := 3) rfl)) dL_tryHolder_8 ?_
      exact hw_iret hx hb hr hlocks hP hS (Nat.le_refl _) (Nat.le_refl _) dL_tryHolder_10 (by rw [kV, k0]; rfl) rfl
    · rw [k0] at h3
      refine hw_catch (i := 2) hown hF (tableOf [(0, 6, 7, 13)]) ⟨0, 6, 11, 26⟩ (tableOf []) (htb.trans rfl) (fun z9 hz => by
        simp only [tableOf, List.map, List.mem_cons, List.not_mem_nil, or_false] at hz
        rcases hz with rfl
        · exact ⟨by decide, 1, hts (Cond.classLink RL 13 (exN 1)) (List.mem_of_getElem? (i := 1) rfl), by decide⟩) (by decide) (by decide) (hts (Cond.classLink RL 26 (exN 2)) (List.mem_of_getElem? (i := 2) rfl)) h1 h2 h3 ?_
      refine lv_astore_n (lv' := [(3, .ref q9), (0, .ref (xa 0)), (1, .int x1), (2, .int x2)]) hx hb dL_tryHolder_11 rfl hl (by decide) rfl (fun ls hl => ?_)
      refine lv_ldc (v := (-9999002 : Int32)) hx hb hown (hts (Cond.constant RL 28 (-9999002)) (List.mem_of_getElem? (i := 4) rfl)) dL_tryHolder_12 ?_
      exact hw_iret hx hb hr hlocks hP hS (Nat.le_refl _) (Nat.le_refl _) dL_tryHolder_14 (by rw [kV, k0]; rfl) rfl
  exact hw_iret hx hb hr hlocks hP hS (Nat.le_refl _) (Nat.le_refl _) dL_tryHolder_6 (by rw [kV, if_pos h0]) rfl
set_option maxRecDepth 20000 in
theorem c_L_tryOwed (l : Launch) (hl0 : l.stackTraces = false) (D : va_G) (cy : Nat → ClassId) (t : FxA) (xa sa sb tr na : Nat → Nat) (ka : Nat → Nat → Nat) {z : SpT} (hz : OKz z) (x1 : Int32) (x2 : Int32) (x3 : Int32) (x4 : Int32) : HW 8 1 6 200 l D cy t yL_tryOwed wsL_tryOwed (wSp cy xa sa sb tr na ka z) (wSp cy xa sa sb tr na ka (m_X8_owed z x1 x2 x3 x4).2.2) [.ref (xa 0), .int x1, .int x2, .int x3, .int x4] (kV (m_X8_owed z x1 x2 x3 x4)) := by
  refine HW.bodyW (hh := [(0, 9, 10, 13)]) (by decide) rfl (Nat.le_of_ble_eq_true rfl) ?_
  intro p e s m below meth c hx hb hml htb hr hts hown hlocks hP hG ls hl A hD hA hS hF
  have hl : lv_has ls 6 [(0, .ref (xa 0)), (1, .int x1), (2, .int x2), (3, .int x3), (4, .int x4)] := hl
  have hCF : CallFix p m c cL_tryOwed 6 s ([.ref (xa 0), .int x1, .int x2, .int x3, .int x4] : List Value).toArray wsL_tryOwed RL := ⟨hx, hb, hml, hown, hts⟩
  have hk := kd_owed hz x1 x2 x3 x4
  refine lv_aload_n hx hb dL_tryOwed_0 rfl (lv_at hl 0 rfl) ?_
  refine lv_iload_n hx hb dL_tryOwed_1 rfl (lv_at hl 1 rfl) ?_
  refine lv_iload_n hx hb dL_tryOwed_2 rfl (lv_at hl 2 rfl) ?_
  refine lv_iload_n hx hb dL_tryOwed_3 rfl (lv_at hl 3 rfl) ?_
  refine lv_iload hx hb dL_tryOwed_4 (lv_at hl 4 rfl) ?_
  refine exV (ci := 6) (A0 := A) (As := [.int x1, .int x2, .int x3, .int x4]) (rest := []) (W1 := (wSp cy xa sa sb tr na ka z)) (W2 := (wSp cy xa sa sb tr na ka (m_X8_owed z x1 x2 x3 x4).2.2)) (c_X8_owed l hl0 D cy t xa sa sb tr na ka z x1 x2 x3 x4 hz.st) hCF gL_tryOwed_X8_owed rfl hq_X8_owed ⟨rfl, rfl, Nat.le_of_ble_eq_true rfl, Nat.le_of_ble_eq_true rfl⟩ hG hF hP hD hS hA h_Sp rfl rfl (List.mem_of_getElem? g_Sp_0) rfl hl.1 rfl (Nat.le_of_ble_eq_true rfl) dL_tryOwed_6 ⟨Nat.le_of_ble_eq_true rfl, Nat.le_of_ble_eq_true rfl⟩ (fun h0 ce q9 H locs hP hD hS h1 h2 h3 => ?_) (fun h0 H locs hP hD hS => ?_)
  · rcases hk with k0 | k0
    · exact absurd k0 (by omega)
    · rw [k0] at h3
      refine hw_catch (i := 1) hown hF (tableOf []) ⟨0, 9, 10, 13⟩ (tableOf []) (htb.trans rfl) (fun z9 hz => absurd hz List.not_mem_nil) (by decide) (by decide) (hts (Cond.classLink RL 13 (exN 1)) (List.mem_of_getElem? (i := 1) rfl)) h1 h2 h3 ?_
      refine lv_astore (lv' := [(5, .ref q9), (0, .ref (xa 0)), (1, .int x1), (2, .int x2), (3, .int x3), (4, .int x4)]) hx hb dL_tryOwed_10 hl (by decide) rfl (fun ls hl => ?_)
      refine lv_ldc (v := (-9999001 : Int32)) hx hb hown (hts (Cond.constant RL 15 (-9999001)) (List.mem_of_getElem? (i := 2) rfl)) dL_tryOwed_12 ?_
      exact hw_iret hx hb hr hlocks hP hS (Nat.le_refl _) (Nat.le_refl _) dL_tryOwed_14 (by rw [kV, k0]; rfl) rfl
  exact hw_iret hx hb hr hlocks hP hS (Nat.le_refl _) (Nat.le_refl _) dL_tryOwed_9 (by rw [kV, if_pos h0]) rfl
set_option maxRecDepth 20000 in
theorem c_L_tryCore (l : Launch) (hl0 : l.stackTraces = false) (D : va_G) (cy : Nat → ClassId) (t : FxA) (xa sa sb tr na : Nat → Nat) (ka : Nat → Nat → Nat) {z : SpT} (hz : OKz z) (x1 : Int32) (x2 : Int32) (x3 : Int32) : HW 8 1 6 200 l D cy t yL_tryCore wsL_tryCore (wSp cy xa sa sb tr na ka z) (wSp cy xa sa sb tr na ka (m_X8_core z x1 x2 x3).2.2) [.ref (xa 0), .int x1, .int x2, .int x3] (kV (m_X8_core z x1 x2 x3)) := by
  refine HW.bodyW (hh := [(0, 7, 8, 13), (0, 7, 13, 26)]) (by decide) rfl (Nat.le_of_ble_eq_true rfl) ?_
  intro p e s m below meth c hx hb hml htb hr hts hown hlocks hP hG ls hl A hD hA hS hF
  have hl : lv_has ls 5 [(0, .ref (xa 0)), (1, .int x1), (2, .int x2), (3, .int x3)] := hl
  have hCF : CallFix p m c cL_tryCore 5 s ([.ref (xa 0), .int x1, .int x2, .int x3] : List Value).toArray wsL_tryCore RL := ⟨hx, hb, hml, hown, hts⟩
  have hk := kd_core hz x1 x2 x3
  refine lv_aload_n hx hb dL_tryCore_0 rfl (lv_at hl 0 rfl) ?_
  refine lv_iload_n hx hb dL_tryCore_1 rfl (lv_at hl 1 rfl) ?_
  refine lv_iload_n hx hb dL_tryCore_2 rfl (lv_at hl 2 rfl) ?_
  refine lv_iload_n hx hb dL_tryCore_3 rfl (lv_at hl 3 rfl) ?_
  refine exV (ci := 6) (A0 := A) (As := [.int x1, .int x2, .int x3]) (rest := []) (W1 := (wSp cy xa sa sb tr na ka z)) (W2 := (wSp cy xa sa sb tr na ka (m_X8_core z x1 x2 x3).2.2)) (c_X8_core l hl0 D cy t xa sa sb tr na ka z x1 x2 x3 hz.st) hCF gL_tryCore_X8_core rfl hq_X8_core ⟨rfl, rfl, Nat.le_of_ble_eq_true rfl, Nat.le_of_ble_eq_true rfl⟩ hG hF hP hD hS hA h_Sp rfl rfl (List.mem_of_getElem? g_Sp_0) rfl hl.1 rfl (Nat.le_of_ble_eq_true rfl) dL_tryCore_4 ⟨Nat.le_of_ble_eq_true rfl, Nat.le_of_ble_eq_true rfl⟩ (fun h0 ce q9 H locs hP hD hS h1 h2 h3 => ?_) (fun h0 H locs hP hD hS => ?_)
  · rcases hk with k0 | k0 | k0
    · exact absurd k0 (by omega)
    · rw [k0] at h3
      refine hw_catch (i := 1) hown hF (tableOf []) ⟨0, 7, 8, 13⟩ (tableOf [(0, 7, 13, 26)]) (htb.trans rfl) (fun z9 hz => absurd hz List.not_mem_nil) (by decide) (by decide) (hts (Cond.classLink RL 13 (exN 1)) (List.mem_of_getElem? (i := 1) rfl)) h1 h2 h3 ?_
      refine lv_astore (lv' := [(4, .ref q9), (0, .ref (xa 0)), (1, .int x1), (2, .int x2), (3, .int x3)]) hx hb dL_tryCore_8 hl (by decide) rfl (fun ls hl => ?_)
      refine lv_ldc (v := (-9999001 : Int32)) hx hb hown (hts (Cond.constant RL 15 (-9999001)) (List.mem_of_getElem? (i := 3) rfl)) dL_tryCore_10 ?_
      exact hw_iret hx hb hr hlocks hP hS (Nat.le_refl _) (Nat.le_refl _) dL_tryCore_12 (by rw [kV, k0]; rfl) rfl
    · rw [k0] at h3
      refine hw_catch (i := 2) hown hF (tableOf [(0, 7, 8, 13)]) ⟨0, 7, 13, 26⟩ (tableOf []) (htb.trans rfl) (fun z9 hz => by
        simp only [tableOf, List.map, List.mem_cons, List.not_mem_nil, or_false] at hz
        rcases hz with rfl
        · exact ⟨by decide, 1, hts (Cond.classLink RL 13 (exN 1)) (List.mem_of_getElem? (i := 1) rfl), by decide⟩) (by decide) (by decide) (hts (Cond.classLink RL 26 (exN 2)) (List.mem_of_getElem? (i := 2) rfl)) h1 h2 h3 ?_
      refine lv_astore (lv' := [(4, .ref q9), (0, .ref (xa 0)), (1, .int x1), (2, .int x2), (3, .int x3)]) hx hb dL_tryCore_13 hl (by decide) rfl (fun ls hl => ?_)
      refine lv_ldc (v := (-9999002 : Int32)) hx hb hown (hts (Cond.constant RL 28 (-9999002)) (List.mem_of_getElem? (i := 4) rfl)) dL_tryCore_15 ?_
      exact hw_iret hx hb hr hlocks hP hS (Nat.le_refl _) (Nat.le_refl _) dL_tryCore_17 (by rw [kV, k0]; rfl) rfl
  exact hw_iret hx hb hr hlocks hP hS (Nat.le_refl _) (Nat.le_refl _) dL_tryCore_7 (by rw [kV, if_pos h0]) rfl
set_option maxRecDepth 20000 in
theorem c_L_trySetting (l : Launch) (hl0 : l.stackTraces = false) (D : va_G) (cy : Nat → ClassId) (t : FxA) (xa sa sb tr na : Nat → Nat) (ka : Nat → Nat → Nat) {z : SpT} (hz : OKz z) (x1 : Int32) : HW 8 1 6 200 l D cy t yL_trySetting wsL_trySetting (wSp cy xa sa sb tr na ka z) (wSp cy xa sa sb tr na ka (m_X8_setting z x1).2.2) [.ref (xa 0), .int x1] (kV (m_X8_setting z x1)) := by
  refine HW.bodyW (hh := [(0, 5, 6, 26)]) (by decide) rfl (Nat.le_of_ble_eq_true rfl) ?_
  intro p e s m below meth c hx hb hml htb hr hts hown hlocks hP hG ls hl A hD hA hS hF
  have hl : lv_has ls 3 [(0, .ref (xa 0)), (1, .int x1)] := hl
  have hCF : CallFix p m c cL_trySetting 3 s ([.ref (xa 0), .int x1] : List Value).toArray wsL_trySetting RL := ⟨hx, hb, hml, hown, hts⟩
  have hk := kd_setting hz x1
  refine lv_aload_n hx hb dL_trySetting_0 rfl (lv_at hl 0 rfl) ?_
  refine lv_iload_n hx hb dL_trySetting_1 rfl (lv_at hl 1 rfl) ?_
  refine exV (ci := 6) (A0 := A) (As := [.int x1]) (rest := []) (W1 := (wSp cy xa sa sb tr na ka z)) (W2 := (wSp cy xa sa sb tr na ka (m_X8_setting z x1).2.2)) (c_X8_setting l hl0 D cy t xa sa sb tr na ka z x1 hz.st) hCF gL_trySetting_X8_setting rfl hq_X8_setting ⟨rfl, rfl, Nat.le_of_ble_eq_true rfl, Nat.le_of_ble_eq_true rfl⟩ hG hF hP hD hS hA h_Sp rfl rfl (List.mem_of_getElem? g_Sp_0) rfl hl.1 rfl (Nat.le_of_ble_eq_true rfl) dL_trySetting_2 ⟨Nat.le_of_ble_eq_true rfl, Nat.le_of_ble_eq_true rfl⟩ (fun h0 ce q9 H locs hP hD hS h1 h2 h3 => ?_) (fun h0 H locs hP hD hS => ?_)
  · rcases hk with k0 | k0
    · exact absurd k0 (by omega)
    · rw [k0] at h3
      refine hw_catch (i := 2) hown hF (tableOf []) ⟨0, 5, 6, 26⟩ (tableOf []) (htb.trans rfl) (fun z9 hz => absurd hz List.not_mem_nil) (by decide) (by decide) (hts (Cond.classLink RL 26 (exN 2)) (List.mem_of_getElem? (i := 1) rfl)) h1 h2 h3 ?_
      refine lv_astore_n (lv' := [(2, .ref q9), (0, .ref (xa 0)), (1, .int x1)]) hx hb dL_trySetting_6 rfl hl (by decide) rfl (fun ls hl => ?_)
      refine lv_ldc (v := (-9999002 : Int32)) hx hb hown (hts (Cond.constant RL 28 (-9999002)) (List.mem_of_getElem? (i := 2) rfl)) dL_trySetting_7 ?_
      exact hw_iret hx hb hr hlocks hP hS (Nat.le_refl _) (Nat.le_refl _) dL_trySetting_9 (by rw [kV, k0]; rfl) rfl
  exact hw_iret hx hb hr hlocks hP hS (Nat.le_refl _) (Nat.le_refl _) dL_trySetting_5 (by rw [kV, if_pos h0]) rfl
set_option maxRecDepth 20000 in
theorem c_L_tryCome (l : Launch) (hl0 : l.stackTraces = false) (D : va_G) (cy : Nat → ClassId) (t : FxA) (xa sa sb tr na : Nat → Nat) (ka : Nat → Nat → Nat) {z : SpT} (hz : OKz z) (x1 : Int32) (x2 : Int32) (x3 : Int32) : HW 8 1 6 200 l D cy t yL_tryCome wsL_tryCome (wSp cy xa sa sb tr na ka z) (wSp cy xa sa sb tr na ka (m_X8_come z x1 x2 x3).2.2) [.ref (xa 0), .int x1, .int x2, .int x3] (kV (m_X8_come z x1 x2 x3)) := by
  refine HW.bodyW (hh := [(0, 7, 8, 13), (0, 7, 13, 26), (0, 7, 18, 19)]) (by decide) rfl (Nat.le_of_ble_eq_true rfl) ?_
  intro p e s m below meth c hx hb hml htb hr hts hown hlocks hP hG ls hl A hD hA hS hF
  have hl : lv_has ls 5 [(0, .ref (xa 0)), (1, .int x1), (2, .int x2), (3, .int x3)] := hl
  have hCF : CallFix p m c cL_tryCome 5 s ([.ref (xa 0), .int x1, .int x2, .int x3] : List Value).toArray wsL_tryCome RL := ⟨hx, hb, hml, hown, hts⟩
  have hk := kd_come hz x1 x2 x3
  refine lv_aload_n hx hb dL_tryCome_0 rfl (lv_at hl 0 rfl) ?_
  refine lv_iload_n hx hb dL_tryCome_1 rfl (lv_at hl 1 rfl) ?_
  refine lv_iload_n hx hb dL_tryCome_2 rfl (lv_at hl 2 rfl) ?_
  refine lv_iload_n hx hb dL_tryCome_3 rfl (lv_at hl 3 rfl) ?_
  refine exV (ci := 6) (A0 := A) (As := [.int x1, .int x2, .int x3]) (rest := []) (W1 := (wSp cy xa sa sb tr na ka z)) (W2 := (wSp cy xa sa sb tr na ka (m_X8_come z x1 x2 x3).2.2)) (c_X8_come l hl0 D cy t xa sa sb tr na ka z x1 x2 x3 hz.hi hz.st) hCF gL_tryCome_X8_come rfl hq_X8_come ⟨rfl, rfl, Nat.le_of_ble_eq_true rfl, Nat.le_of_ble_eq_true rfl⟩ hG hF hP hD hS hA h_Sp rfl rfl (List.mem_of_getElem? g_Sp_0) rfl hl.1 rfl (Nat.le_of_ble_eq_true rfl) dL_tryCome_4 ⟨Nat.le_of_ble_eq_true rfl, Nat.le_of_ble_eq_true rfl⟩ (fun h0 ce q9 H locs hP hD hS h1 h2 h3 => ?_) (fun h0 H locs hP hD hS => ?_)
  · rcases hk with k0 | k0 | k0 | k0
    · exact absurd k0 (by omega)
    · rw [k0] at h3
      refine hw_catch (i := 1) hown hF (tableOf []) ⟨0, 7, 8, 13⟩ (tableOf [(0, 7, 13, 26), (0, 7, 18, 19)]) (htb.trans rfl) (fun z9 hz => absurd hz List.not_mem_nil) (by decide) (by decide) (hts (Cond.classLink RL 13 (exN 1)) (List.mem_of_getElem? (i := 1) rfl)) h1 h2 h3 ?_
      refine lv_astore (lv' := [(4, .ref q9), (0, .ref (xa 0)), (1, .int x1), (2, .int x2), (3, .int x3)]) hx hb dL_tryCome_8 hl (by decide) rfl (fun ls hl => ?_)
      refine lv_ldc (v := (-9999001 : Int32)) hx hb hown (hts (Cond.constant RL 15 (-9999001)) (List.mem_of_getElem? (i := 4) rfl)) dL_tryCome_10 ?_
      exact hw_iret hx hb hr hlocks hP hS (Nat.le_refl _) (Nat.le_refl _) dL_tryCome_12 (by rw [kV, k0]; rfl) rfl
    · rw [k0] at h3
      refine hw_catch (i := 2) hown hF (tableOf [(0, 7, 8, 13)]) ⟨0, 7, 13, 26⟩ (tableOf [(0, 7, 18, 19)]) (htb.trans rfl) (fun z9 hz => by
        simp only [tableOf, List.map, List.mem_cons, List.not_mem_nil, or_false] at hz
        rcases hz with rfl
        · exact ⟨by decide, 1, hts (Cond.classLink RL 13 (exN 1)) (List.mem_of_getElem? (i := 1) rfl), by decide⟩) (by decide) (by decide) (hts (Cond.classLink RL 26 (exN 2)) (List.mem_of_getElem? (i := 2) rfl)) h1 h2 h3 ?_
      refine lv_astore (lv' := [(4, .ref q9), (0, .ref (xa 0)), (1, .int x1), (2, .int x2), (3, .int x3)]) hx hb dL_tryCome_13 hl (by decide) rfl (fun ls hl => ?_)
      refine lv_ldc (v := (-9999002 : Int32)) hx hb hown (hts (Cond.constant RL 28 (-9999002)) (List.mem_of_getElem? (i := 5) rfl)) dL_tryCome_15 ?_
      exact hw_iret hx hb hr hlocks hP hS (Nat.le_refl _) (Nat.le_refl _) dL_tryCome_17 (by rw [kV, k0]; rfl) rfl
    · rw [k0] at h3
      refine hw_catch (i := 3) hown hF (tableOf [(0, 7, 8, 13), (0, 7, 13, 26)]) ⟨0, 7, 18, 19⟩ (tableOf []) (htb.trans rfl) (fun z9 hz => by
        simp only [tableOf, List.map, List.mem_cons, List.not_mem_nil, or_false] at hz
        rcases hz with rfl | rfl
        · exact ⟨by decide, 1, hts (Cond.classLink RL 13 (exN 1)) (List.mem_of_getElem? (i := 1) rfl), by decide⟩
        · exact ⟨by decide, 2, hts (Cond.classLink RL 26 (exN 2)) (List.mem_of_getElem? (i := 2) rfl), by decide⟩) (by decide) (by decide) (hts (Cond.classLink RL 19 (exN 3)) (List.mem_of_getElem? (i := 3) rfl)) h1 h2 h3 ?_
      refine lv_astore (lv' := [(4, .ref q9), (0, .ref (xa 0)), (1, .int x1), (2, .int x2), (3, .int x3)]) hx hb dL_tryCome_18 hl (by decide) rfl (fun ls hl => ?_)
      refine lv_ldc (v := (-9999003 : Int32)) hx hb hown (hts (Cond.constant RL 21 (-9999003)) (List.mem_of_getElem? (i := 6) rfl)) dL_tryCome_20 ?_
      exact hw_iret hx hb hr hlocks hP hS (Nat.le_refl _) (Nat.le_refl _) dL_tryCome_22 (by rw [kV, k0]; rfl) rfl
  exact hw_iret hx hb hr hlocks hP hS (Nat.le_refl _) (Nat.le_refl _) dL_tryCome_7 (by rw [kV, if_pos h0]) rfl
set_option maxRecDepth 20000 in
theorem c_L_tryLend (l : Launch) (hl0 : l.stackTraces = false) (D : va_G) (cy : Nat → ClassId) (t : FxA) (xa sa sb tr na : Nat → Nat) (ka : Nat → Nat → Nat) {z : SpT} (hz : OKz z) (x1 : Int32) (x2 : Int32) (x3 : Int32) : HW 8 1 6 200 l D cy t yL_tryLend wsL_tryLend (wSp cy xa sa sb tr na ka z) (wSp cy xa sa sb tr na ka (m_X8_lend z x1 x2 x3).2.2) [.ref (xa 0), .int x1, .int x2, .int x3] (kV (m_X8_lend z x1 x2 x3)) := by
  refine HW.bodyW (hh := [(0, 7, 8, 13), (0, 7, 13, 26), (0, 7, 18, 19)]) (by decide) rfl (Nat.le_of_ble_eq_true rfl) ?_
  intro p e s m below meth c hx hb hml htb hr hts hown hlocks hP hG ls hl A hD hA hS hF
  have hl : lv_has ls 5 [(0, .ref (xa 0)), (1, .int x1), (2, .int x2), (3, .int x3)] := hl
  have hCF : CallFix p m c cL_tryLend 5 s ([.ref (xa 0), .int x1, .int x2, .int x3] : List Value).toArray wsL_tryLend RL := ⟨hx, hb, hml, hown, hts⟩
  have hk := kd_lend hz x1 x2 x3
  refine lv_aload_n hx hb dL_tryLend_0 rfl (lv_at hl 0 rfl) ?_
  refine lv_iload_n hx hb dL_tryLend_1 rfl (lv_at hl 1 rfl) ?_
  refine lv_iload_n hx hb dL_tryLend_2 rfl (lv_at hl 2 rfl) ?_
  refine lv_iload_n hx hb dL_tryLend_3 rfl (lv_at hl 3 rfl) ?_
  refine exV (ci := 6) (A0 := A) (As := [.int x1, .int x2, .int x3]) (rest := []) (W1 := (wSp cy xa sa sb tr na ka z)) (W2 := (wSp cy xa sa sb tr na ka (m_X8_lend z x1 x2 x3).2.2)) (c_X8_lend l hl0 D cy t xa sa sb tr na ka z x1 x2 x3 hz.hi hz.st) hCF gL_tryLend_X8_lend rfl hq_X8_lend ⟨rfl, rfl, Nat.le_of_ble_eq_true rfl, Nat.le_of_ble_eq_true rfl⟩ hG hF hP hD hS hA h_Sp rfl rfl (List.mem_of_getElem? g_Sp_0) rfl hl.1 rfl (Nat.le_of_ble_eq_true rfl) dL_tryLend_4 ⟨Nat.le_of_ble_eq_true rfl, Nat.le_of_ble_eq_true rfl⟩ (fun h0 ce q9 H locs hP hD hS h1 h2 h3 => ?_) (fun h0 H locs hP hD hS => ?_)
  · rcases hk with k0 | k0 | k0 | k0
    · exact absurd k0 (by omega)
    · rw [k0] at h3
      refine hw_catch (i := 1) hown hF (tableOf []) ⟨0, 7, 8, 13⟩ (tableOf [(0, 7, 13, 26), (0, 7, 18, 19)]) (htb.trans rfl) (fun z9 hz => absurd hz List.not_mem_nil) (by decide) (by decide) (hts (Cond.classLink RL 13 (exN 1)) (List.mem_of_getElem? (i := 1) rfl)) h1 h2 h3 ?_
      refine lv_astore (lv' := [(4, .ref q9), (0, .ref (xa 0)), (1, .int x1), (2, .int x2), (3, .int x3)]) hx hb dL_tryLend_8 hl (by decide) rfl (fun ls hl => ?_)
      refine lv_ldc (v := (-9999001 : Int32)) hx hb hown (hts (Cond.constant RL 15 (-9999001)) (List.mem_of_getElem? (i := 4) rfl)) dL_tryLend_10 ?_
      exact hw_iret hx hb hr hlocks hP hS (Nat.le_refl _) (Nat.le_refl _) dL_tryLend_12 (by rw [kV, k0]; rfl) rfl
    · rw [k0] at h3
      refine hw_catch (i := 2) hown hF (tableOf [(0, 7, 8, 13)]) ⟨0, 7, 13, 26⟩ (tableOf [(0, 7, 18, 19)]) (htb.trans rfl) (fun z9 hz => by
        simp only [tableOf, List.map, List.mem_cons, List.not_mem_nil, or_false] at hz
        rcases hz with rfl
        · exact ⟨by decide, 1, hts (Cond.classLink RL 13 (exN 1)) (List.mem_of_getElem? (i := 1) rfl), by decide⟩) (by decide) (by decide) (hts (Cond.classLink RL 26 (exN 2)) (List.mem_of_getElem? (i := 2) rfl)) h1 h2 h3 ?_
      refine lv_astore (lv' := [(4, .ref q9), (0, .ref (xa 0)), (1, .int x1), (2, .int x2), (3, .int x3)]) hx hb dL_tryLend_13 hl (by decide) rfl (fun ls hl => ?_)
      refine lv_ldc (v := (-9999002 : Int32)) hx hb hown (hts (Cond.constant RL 28 (-9999002)) (List.mem_of_getElem? (i := 5) rfl)) dL_tryLend_15 ?_
      exact hw_iret hx hb hr hlocks hP hS (Nat.le_refl _) (Nat.le_refl _) dL_tryLend_17 (by rw [kV, k0]; rfl) rfl
    · rw [k0] at h3
      refine hw_catch (i := 3) hown hF (tableOf [(0, 7, 8, 13), (0, 7, 13, 26)]) ⟨0, 7, 18, 19⟩ (tableOf []) (htb.trans rfl) (fun z9 hz => by
        simp only [tableOf, List.map, List.mem_cons, List.not_mem_nil, or_false] at hz
        rcases hz with rfl | rfl
        · exact ⟨by decide, 1, hts (Cond.classLink RL 13 (exN 1)) (List.mem_of_getElem? (i := 1) rfl), by decide⟩
        · exact ⟨by decide, 2, hts (Cond.classLink RL 26 (exN 2)) (List.mem_of_getElem? (i := 2) rfl), by decide⟩) (by decide) (by decide) (hts (Cond.classLink RL 19 (exN 3)) (List.mem_of_getElem? (i := 3) rfl)) h1 h2 h3 ?_
      refine lv_astore (lv' := [(4, .ref q9), (0, .ref (xa 0)), (1, .int x1), (2, .int x2), (3, .int x3)]) hx hb dL_tryLend_18 hl (by decide) rfl (fun ls hl => ?_)
      refine lv_ldc (v := (-9999003 : Int32)) hx hb hown (hts (Cond.constant RL 21 (-9999003)) (List.mem_of_getElem? (i := 6) rfl)) dL_tryLend_20 ?_
      exact hw_iret hx hb hr hlocks hP hS (Nat.le_refl _) (Nat.le_refl _) dL_tryLend_22 (by rw [kV, k0]; rfl) rfl
  exact hw_iret hx hb hr hlocks hP hS (Nat.le_refl _) (Nat.le_refl _) dL_tryLend_7 (by rw [kV, if_pos h0]) rfl
