/-! helpers of the law -/
set_option maxRecDepth 20000 in
theorem c_L_bring (l : Launch) (hl0 : l.stackTraces = false) (D : va_G) (cy : Nat → ClassId) (t : FxA) (xa sa sb tr na : Nat → Nat) (ka : Nat → Nat → Nat) (oa : Nat) (f : Nat → Int64) {T : Int} {z : SpT} {mo : MoT} (H : PR T z mo) (x1 : Int32) {k : Int32} (hk : ((m_X8_bring z x1).1 = 0 ∧ k = 0) ∨ ∃ e ∈ eb, (m_X8_bring z x1).1 = e.1 ∧ k = e.2) : HX l D cy t yL_bring wsL_bring (wO cy oa f (wSp cy xa sa sb tr na ka z)) (wO cy oa (oV f (m_X8_bring z x1).1 (m_X8_bring z x1).2.1) (wSp cy xa sa sb tr na ka (m_X8_bring z x1).2.2)) [.ref (xa 0), .int x1, .ref oa] k := by
  refine HX.body (hh := [(0, 9, 12, 28), (0, 9, 15, 15)]) (by decide) rfl (Nat.le_of_ble_eq_true rfl) ?_
  intro p e s m below meth c hx hb hml htb hr hts hown hlocks hP hG ls hl A hD hA hS hF
  have hl : lv_has ls 4 [(0, .ref (xa 0)), (1, .int x1), (2, .ref oa)] := hl
  have hCF : CallFix p m c cL_bring 4 s ([.ref (xa 0), .int x1, .ref oa] : List Value).toArray wsL_bring RL := ⟨hx, hb, hml, hown, hts⟩
  have hk := in_eb hk
  refine lv_aload_n hx hb dL_bring_0 rfl (lv_at hl 2 rfl) ?_
  refine lv_iconst (v := (0 : Int32)) hx hb dL_bring_1 (by decide) ?_
  refine lv_aload_n hx hb dL_bring_2 rfl (lv_at hl 0 rfl) ?_
  refine lv_iload_n hx hb dL_bring_3 rfl (lv_at hl 1 rfl) ?_
  refine exV (ci := 6) (A0 := A) (As := [.int x1]) (rest := [.int (0 : Int32), .ref oa]) (W1 := (wO cy oa f (wSp cy xa sa sb tr na ka z))) (W2 := wO cy oa f (wSp cy xa sa sb tr na ka (m_X8_bring z x1).2.2)) ((c_X8_bring l hl0 D cy t xa sa sb tr na ka z x1 H.hi H.st).out oa f) hCF gL_bring_X8_bring rfl hq_X8_bring ⟨rfl, rfl, Nat.le_of_ble_eq_true rfl, Nat.le_of_ble_eq_true rfl⟩ hG hF hP hD hS hA (congrArg (List.cons oa) h_Sp) rfl rfl (List.mem_cons_of_mem _ (List.mem_of_getElem? g_Sp_0)) rfl hl.1 rfl (Nat.le_of_ble_eq_true rfl) dL_bring_4 ⟨Nat.le_of_ble_eq_true rfl, Nat.le_of_ble_eq_true rfl⟩ (fun h0 ce q9 H locs hP hD hS h1 h2 h3 => ?_) (fun h0 H locs hP hD hS => ?_)
  · rcases hk with ⟨k0, k1⟩ | ⟨k0, k1⟩ | ⟨k0, k1⟩
    · exact absurd k0 (by omega)
    · rw [k0] at h3
      refine hx_catch (i := 1) hown hF (tableOf []) ⟨0, 9, 12, 28⟩ (tableOf [(0, 9, 15, 15)]) (htb.trans rfl) (fun z9 hz => absurd hz List.not_mem_nil) (by decide) (by decide) (hts (Cond.classLink RL 28 (exN 1)) (List.mem_of_getElem? (i := 1) rfl)) h1 h2 h3 ?_
      refine lv_astore_n (lv' := [(3, .ref q9), (0, .ref (xa 0)), (1, .int x1), (2, .ref oa)]) hx hb dL_bring_12 rfl hl (by decide) rfl (fun ls hl => ?_)
      refine lv_iconst (v := (1 : Int32)) hx hb dL_bring_13 (by decide) ?_
      exact hx_iret hx hb hr hlocks hP hS (Nat.le_refl _) (Nat.le_refl _) dL_bring_14 k1.symm (by rw [oV, if_neg (by omega)])
    · rw [k0] at h3
      refine hx_catch (i := 3) hown hF (tableOf [(0, 9, 12, 28)]) ⟨0, 9, 15, 15⟩ (tableOf []) (htb.trans rfl) (fun z9 hz => by
        simp only [tableOf, List.map, List.mem_cons, List.not_mem_nil, or_false] at hz
        rcases hz with rfl
        · exact ⟨by decide, 1, hts (Cond.classLink RL 28 (exN 1)) (List.mem_of_getElem? (i := 1) rfl), by decide⟩) (by decide) (by decide) (hts (Cond.classLink RL 15 (exN 3)) (List.mem_of_getElem? (i := 2) rfl)) h1 h2 h3 ?_
      refine lv_astore_n (lv' := [(3, .ref q9), (0, .ref (xa 0)), (1, .int x1), (2, .ref oa)]) hx hb dL_bring_15 rfl hl (by decide) rfl (fun ls hl => ?_)
      refine lv_iconst (v := (2 : Int32)) hx hb dL_bring_16 (by decide) ?_
      exact hx_iret hx hb hr hlocks hP hS (Nat.le_refl _) (Nat.le_refl _) dL_bring_17 k1.symm (by rw [oV, if_neg (by omega)])
  refine lv_i2l hx hb dL_bring_7 rfl ?_
  refine va_last hx hb hG.1 hP hD hS 0 3 rfl rfl (bd_of (by decide) (by decide)) dL_bring_8 (fun H locs hP hD hS => ?_)
  refine lv_goto (tgt := 18) hx hb dL_bring_9 (by decide) ?_
  refine lv_iconst (v := (0 : Int32)) hx hb dL_bring_18 (by decide) ?_
  refine hx_iret hx hb hr hlocks hP hS (Nat.le_refl _) (Nat.le_refl _) dL_bring_19 ?_ (by rw [oV, if_pos h0]; rfl)
  rcases hk with ⟨k0, k1⟩ | ⟨k0, k1⟩ | ⟨k0, k1⟩
  · exact k1.symm
  · exact absurd k0 (by omega)
  · exact absurd k0 (by omega)
set_option maxRecDepth 20000 in
theorem c_L_exchange (l : Launch) (hl0 : l.stackTraces = false) (D : va_G) (cy : Nat → ClassId) (t : FxA) (xa sa sb tr na : Nat → Nat) (ka : Nat → Nat → Nat) (oa : Nat) (f : Nat → Int64) {T : Int} {z : SpT} {mo : MoT} (H : PR T z mo) (x1 : Int32) (x2 : Int32) {k : Int32} (hk : ((m_X8_exchange z x1 x2).1 = 0 ∧ k = 0) ∨ ∃ e ∈ eb, (m_X8_exchange z x1 x2).1 = e.1 ∧ k = e.2) : HX l D cy t yL_exchange wsL_exchange (wO cy oa f (wSp cy xa sa sb tr na ka z)) (wO cy oa (oV f (m_X8_exchange z x1 x2).1 (m_X8_exchange z x1 x2).2.1) (wSp cy xa sa sb tr na ka (m_X8_exchange z x1 x2).2.2)) [.ref (xa 0), .int x1, .int x2, .ref oa] k := by
  refine HX.body (hh := [(0, 10, 13, 28), (0, 10, 17, 15)]) (by decide) rfl (Nat.le_of_ble_eq_true rfl) ?_
  intro p e s m below meth c hx hb hml htb hr hts hown hlocks hP hG ls hl A hD hA hS hF
  have hl : lv_has ls 5 [(0, .ref (xa 0)), (1, .int x1), (2, .int x2), (3, .ref oa)] := hl
  have hCF : CallFix p m c cL_exchange 5 s ([.ref (xa 0), .int x1, .int x2, .ref oa] : List Value).toArray wsL_exchange RL := ⟨hx, hb, hml, hown, hts⟩
  have hk := in_eb hk
  refine lv_aload_n hx hb dL_exchange_0 rfl (lv_at hl 3 rfl) ?_
  refine lv_iconst (v := (0 : Int32)) hx hb dL_exchange_1 (by decide) ?_
  refine lv_aload_n hx hb dL_exchange_2 rfl (lv_at hl 0 rfl) ?_
  refine lv_iload_n hx hb dL_exchange_3 rfl (lv_at hl 1 rfl) ?_
  refine lv_iload_n hx hb dL_exchange_4 rfl (lv_at hl 2 rfl) ?_
  refine exV (ci := 6) (A0 := A) (As := [.int x1, .int x2]) (rest := [.int (0 : Int32), .ref oa]) (W1 := (wO cy oa f (wSp cy xa sa sb tr na ka z))) (W2 := wO cy oa f (wSp cy xa sa sb tr na ka (m_X8_exchange z x1 x2).2.2)) ((c_X8_exchange l hl0 D cy t xa sa sb tr na ka z x1 x2 H.hi H.st).out oa f) hCF gL_exchange_X8_exchange rfl hq_X8_exchange ⟨rfl, rfl, Nat.le_of_ble_eq_true rfl, Nat.le_of_ble_eq_true rfl⟩ hG hF hP hD hS hA (congrArg (List.cons oa) h_Sp) rfl rfl (List.mem_cons_of_mem _ (List.mem_of_getElem? g_Sp_0)) rfl hl.1 rfl (Nat.le_of_ble_eq_true rfl) dL_exchange_5 ⟨Nat.le_of_ble_eq_true rfl, Nat.le_of_ble_eq_true rfl⟩ (fun h0 ce q9 H locs hP hD hS h1 h2 h3 => ?_) (fun h0 H locs hP hD hS => ?_)
  · rcases hk with ⟨k0, k1⟩ | ⟨k0, k1⟩ | ⟨k0, k1⟩
    · exact absurd k0 (by omega)
    · rw [k0] at h3
      refine hx_catch (i := 1) hown hF (tableOf []) ⟨0, 10, 13, 28⟩ (tableOf [(0, 10, 17, 15)]) (htb.trans rfl) (fun z9 hz => absurd hz List.not_mem_nil) (by decide) (by decide) (hts (Cond.classLink RL 28 (exN 1)) (List.mem_of_getElem? (i := 1) rfl)) h1 h2 h3 ?_
      refine lv_astore (lv' := [(4, .ref q9), (0, .ref (xa 0)), (1, .int x1), (2, .int x2), (3, .ref oa)]) hx hb dL_exchange_13 hl (by decide) rfl (fun ls hl => ?_)
      refine lv_iconst (v := (1 : Int32)) hx hb dL_exchange_15 (by decide) ?_
      exact hx_iret hx hb hr hlocks hP hS (Nat.le_refl _) (Nat.le_refl _) dL_exchange_16 k1.symm (by rw [oV, if_neg (by omega)])
    · rw [k0] at h3
      refine hx_catch (i := 3) hown hF (tableOf [(0, 10, 13, 28)]) ⟨0, 10, 17, 15⟩ (tableOf []) (htb.trans rfl) (fun z9 hz => by
        simp only [tableOf, List.map, List.mem_cons, List.not_mem_nil, or_false] at hz
        rcases hz with rfl
        · exact ⟨by decide, 1, hts (Cond.classLink RL 28 (exN 1)) (List.mem_of_getElem? (i := 1) rfl), by decide⟩) (by decide) (by decide) (hts (Cond.classLink RL 15 (exN 3)) (List.mem_of_getElem? (i := 2) rfl)) h1 h2 h3 ?_
      refine lv_astore (lv' := [(4, .ref q9), (0, .ref (xa 0)), (1, .int x1), (2, .int x2), (3, .ref oa)]) hx hb dL_exchange_17 hl (by decide) rfl (fun ls hl => ?_)
      refine lv_iconst (v := (2 : Int32)) hx hb dL_exchange_19 (by decide) ?_
      exact hx_iret hx hb hr hlocks hP hS (Nat.le_refl _) (Nat.le_refl _) dL_exchange_20 k1.symm (by rw [oV, if_neg (by omega)])
  refine lv_i2l hx hb dL_exchange_8 rfl ?_
  refine va_last hx hb hG.1 hP hD hS 0 3 rfl rfl (bd_of (by decide) (by decide)) dL_exchange_9 (fun H locs hP hD hS => ?_)
  refine lv_goto (tgt := 21) hx hb dL_exchange_10 (by decide) ?_
  refine lv_iconst (v := (0 : Int32)) hx hb dL_exchange_21 (by decide) ?_
  refine hx_iret hx hb hr hlocks hP hS (Nat.le_refl _) (Nat.le_refl _) dL_exchange_22 ?_ (by rw [oV, if_pos h0]; rfl)
  rcases hk with ⟨k0, k1⟩ | ⟨k0, k1⟩ | ⟨k0, k1⟩
  · exact k1.symm
  · exact absurd k0 (by omega)
  · exact absurd k0 (by omega)
set_option maxRecDepth 20000 in
theorem c_L_advance (l : Launch) (hl0 : l.stackTraces = false) (D : va_G) (cy : Nat → ClassId) (t : FxA) (xa sa sb tr na : Nat → Nat) (ka : Nat → Nat → Nat) (oa : Nat) (f : Nat → Int64) {T : Int} {z : SpT} {mo : MoT} (H : PR T z mo) (x1 : Int32) (x2 : Int32) (x3 : Int32) {k : Int32} (hk : ((m_X8_advance z x1 x2 x3).1 = 0 ∧ k = 0) ∨ ∃ e ∈ ea, (m_X8_advance z x1 x2 x3).1 = e.1 ∧ k = e.2) : HX l D cy t yL_advance wsL_advance (wO cy oa f (wSp cy xa sa sb tr na ka z)) (wO cy oa (oV f (m_X8_advance z x1 x2 x3).1 (m_X8_advance z x1 x2 x3).2.1) (wSp cy xa sa sb tr na ka (m_X8_advance z x1 x2 x3).2.2)) [.ref (xa 0), .int x1, .int x2, .int x3, .ref oa] k := by
  refine HX.body (hh := [(0, 12, 15, 28), (0, 12, 19, 13), (0, 12, 23, 15)]) (by decide) rfl (Nat.le_of_ble_eq_true rfl) ?_
  intro p e s m below meth c hx hb hml htb hr hts hown hlocks hP hG ls hl A hD hA hS hF
  have hl : lv_has ls 6 [(0, .ref (xa 0)), (1, .int x1), (2, .int x2), (3, .int x3), (4, .ref oa)] := hl
  have hCF : CallFix p m c cL_advance 6 s ([.ref (xa 0), .int x1, .int x2, .int x3, .ref oa] : List Value).toArray wsL_advance RL := ⟨hx, hb, hml, hown, hts⟩
  have hk := in_ea hk
  refine lv_aload hx hb dL_advance_0 (lv_at hl 4 rfl) ?_
  refine lv_iconst (v := (0 : Int32)) hx hb dL_advance_2 (by decide) ?_
  refine lv_aload_n hx hb dL_advance_3 rfl (lv_at hl 0 rfl) ?_
  refine lv_iload_n hx hb dL_advance_4 rfl (lv_at hl 1 rfl) ?_
  refine lv_iload_n hx hb dL_advance_5 rfl (lv_at hl 2 rfl) ?_
  refine lv_iload_n hx hb dL_advance_6 rfl (lv_at hl 3 rfl) ?_
  refine exV (ci := 6) (A0 := A) (As := [.int x1, .int x2, .int x3]) (rest := [.int (0 : Int32), .ref oa]) (W1 := (wO cy oa f (wSp cy xa sa sb tr na ka z))) (W2 := wO cy oa f (wSp cy xa sa sb tr na ka (m_X8_advance z x1 x2 x3).2.2)) ((c_X8_advance l hl0 D cy t xa sa sb tr na ka z x1 x2 x3 H.hi H.st).out oa f) hCF gL_advance_X8_advance rfl hq_X8_advance ⟨rfl, rfl, Nat.le_of_ble_eq_true rfl, Nat.le_of_ble_eq_true rfl⟩ hG hF hP hD hS hA (congrArg (List.cons oa) h_Sp) rfl rfl (List.mem_cons_of_mem _ (List.mem_of_getElem? g_Sp_0)) rfl hl.1 rfl (Nat.le_of_ble_eq_true rfl) dL_advance_7 ⟨Nat.le_of_ble_eq_true rfl, Nat.le_of_ble_eq_true rfl⟩ (fun h0 ce q9 H locs hP hD hS h1 h2 h3 => ?_) (fun h0 H locs hP hD hS => ?_)
  · rcases hk with ⟨k0, k1⟩ | ⟨k0, k1⟩ | ⟨k0, k1⟩ | ⟨k0, k1⟩
    · exact absurd k0 (by omega)
    · rw [k0] at h3
      refine hx_catch (i := 1) hown hF (tableOf []) ⟨0, 12, 15, 28⟩ (tableOf [(0, 12, 19, 13), (0, 12, 23, 15)]) (htb.trans rfl) (fun z9 hz => absurd hz List.not_mem_nil) (by decide) (by decide) (hts (Cond.classLink RL 28 (exN 1)) (List.mem_of_getElem? (i := 1) rfl)) h1 h2 h3 ?_
      refine lv_astore (lv' := [(5, .ref q9), (0, .ref (xa 0)), (1, .int x1), (2, .int x2), (3, .int x3), (4, .ref oa)]) hx hb dL_advance_15 hl (by decide) rfl (fun ls hl => ?_)
      refine lv_iconst (v := (1 : Int32)) hx hb dL_advance_17 (by decide) ?_
      exact hx_iret hx hb hr hlocks hP hS (Nat.le_refl _) (Nat.le_refl _) dL_advance_18 k1.symm (by rw [oV, if_neg (by omega)])
    · rw [k0] at h3
      refine hx_catch (i := 2) hown hF (tableOf [(0, 12, 15, 28)]) ⟨0, 12, 19, 13⟩ (tableOf [(0, 12, 23, 15)]) (htb.trans rfl) (fun z9 hz => by
        simp only [tableOf, List.map, List.mem_cons, List.not_mem_nil, or_false] at hz
        rcases hz with rfl
        · exact ⟨by decide, 1, hts (Cond.classLink RL 28 (exN 1)) (List.mem_of_getElem? (i := 1) rfl), by decide⟩) (by decide) (by decide) (hts (Cond.classLink RL 13 (exN 2)) (List.mem_of_getElem? (i := 2) rfl)) h1 h2 h3 ?_
      refine lv_astore (lv' := [(5, .ref q9), (0, .ref (xa 0)), (1, .int x1), (2, .int x2), (3, .int x3), (4, .ref oa)]) hx hb dL_advance_19 hl (by decide) rfl (fun ls hl => ?_)
      refine lv_iconst (v := (2 : Int32)) hx hb dL_advance_21 (by decide) ?_
      exact hx_iret hx hb hr hlocks hP hS (Nat.le_refl _) (Nat.le_refl _) dL_advance_22 k1.symm (by rw [oV, if_neg (by omega)])
    · rw [k0] at h3
      refine hx_catch (i := 3) hown hF (tableOf [(0, 12, 15, 28), (0, 12, 19, 13)]) ⟨0, 12, 23, 15⟩ (tableOf []) (htb.trans rfl) (fun z9 hz => by
        simp only [tableOf, List.map, List.mem_cons, List.not_mem_nil, or_false] at hz
        rcases hz with rfl | rfl
        · exact ⟨by decide, 1, hts (Cond.classLink RL 28 (exN 1)) (List.mem_of_getElem? (i := 1) rfl), by decide⟩
        · exact ⟨by decide, 2, hts (Cond.classLink RL 13 (exN 2)) (List.mem_of_getElem? (i := 2) rfl), by decide⟩) (by decide) (by decide) (hts (Cond.classLink RL 15 (exN 3)) (List.mem_of_getElem? (i := 3) rfl)) h1 h2 h3 ?_
      refine lv_astore (lv' := [(5, .ref q9), (0, .ref (xa 0)), (1, .int x1), (2, .int x2), (3, .int x3), (4, .ref oa)]) hx hb dL_advance_23 hl (by decide) rfl (fun ls hl => ?_)
      refine lv_iconst (v := (3 : Int32)) hx hb dL_advance_25 (by decide) ?_
      exact hx_iret hx hb hr hlocks hP hS (Nat.le_refl _) (Nat.le_refl _) dL_advance_26 k1.symm (by rw [oV, if_neg (by omega)])
  refine lv_i2l hx hb dL_advance_10 rfl ?_
  refine va_last hx hb hG.1 hP hD hS 0 3 rfl rfl (bd_of (by decide) (by decide)) dL_advance_11 (fun H locs hP hD hS => ?_)
  refine lv_goto (tgt := 27) hx hb dL_advance_12 (by decide) ?_
  refine lv_iconst (v := (0 : Int32)) hx hb dL_advance_27 (by decide) ?_
  refine hx_iret hx hb hr hlocks hP hS (Nat.le_refl _) (Nat.le_refl _) dL_advance_28 ?_ (by rw [oV, if_pos h0]; rfl)
  rcases hk with ⟨k0, k1⟩ | ⟨k0, k1⟩ | ⟨k0, k1⟩ | ⟨k0, k1⟩
  · exact k1.symm
  · exact absurd k0 (by omega)
  · exact absurd k0 (by omega)
  · exact absurd k0 (by omega)
set_option maxRecDepth 20000 in
theorem c_L_deliver (l : Launch) (hl0 : l.stackTraces = false) (D : va_G) (cy : Nat → ClassId) (t : FxA) (xa sa sb tr na : Nat → Nat) (ka : Nat → Nat → Nat) (oa : Nat) (f : Nat → Int64) {T : Int} {z : SpT} {mo : MoT} (H : PR T z mo) (x1 : Int32) {k : Int32} (hk : ((m_X8_deliver z x1).1 = 0 ∧ k = 0) ∨ ∃ e ∈ eb, (m_X8_deliver z x1).1 = e.1 ∧ k = e.2) : HX l D cy t yL_deliver wsL_deliver (wO cy oa f (wSp cy xa sa sb tr na ka z)) (wO cy oa (oV f (m_X8_deliver z x1).1 (m_X8_deliver z x1).2.1) (wSp cy xa sa sb tr na ka (m_X8_deliver z x1).2.2)) [.ref (xa 0), .int x1, .ref oa] k := by
  refine HX.body (hh := [(0, 9, 12, 28), (0, 9, 15, 15)]) (by decide) rfl (Nat.le_of_ble_eq_true rfl) ?_
  intro p e s m below meth c hx hb hml htb hr hts hown hlocks hP hG ls hl A hD hA hS hF
  have hl : lv_has ls 4 [(0, .ref (xa 0)), (1, .int x1), (2, .ref oa)] := hl
  have hCF : CallFix p m c cL_deliver 4 s ([.ref (xa 0), .int x1, .ref oa] : List Value).toArray wsL_deliver RL := ⟨hx, hb, hml, hown, hts⟩
  have hk := in_eb hk
  refine lv_aload_n hx hb dL_deliver_0 rfl (lv_at hl 2 rfl) ?_
  refine lv_iconst (v := (0 : Int32)) hx hb dL_deliver_1 (by decide) ?_
  refine lv_aload_n hx hb dL_deliver_2 rfl (lv_at hl 0 rfl) ?_
  refine lv_iload_n hx hb dL_deliver_3 rfl (lv_at hl 1 rfl) ?_
  refine exV (ci := 6) (A0 := A) (As := [.int x1]) (rest := [.int (0 : Int32), .ref oa]) (W1 := (wO cy oa f (wSp cy xa sa sb tr na ka z))) (W2 := wO cy oa f (wSp cy xa sa sb tr na ka (m_X8_deliver z x1).2.2)) ((c_X8_deliver l hl0 D cy t xa sa sb tr na ka z x1 H.hi H.st).out oa f) hCF gL_deliver_X8_deliver rfl hq_X8_deliver ⟨rfl, rfl, Nat.le_of_ble_eq_true rfl, Nat.le_of_ble_eq_true rfl⟩ hG hF hP hD hS hA (congrArg (List.cons oa) h_Sp) rfl rfl (List.mem_cons_of_mem _ (List.mem_of_getElem? g_Sp_0)) rfl hl.1 rfl (Nat.le_of_ble_eq_true rfl) dL_deliver_4 ⟨Nat.le_of_ble_eq_true rfl, Nat.le_of_ble_eq_true rfl⟩ (fun h0 ce q9 H locs hP hD hS h1 h2 h3 => ?_) (fun h0 H locs hP hD hS => ?_)
  · rcases hk with ⟨k0, k1⟩ | ⟨k0, k1⟩ | ⟨k0, k1⟩
    · exact absurd k0 (by omega)
    · rw [k0] at h3
      refine hx_catch (i := 1) hown hF (tableOf []) ⟨0, 9, 12, 28⟩ (tableOf [(0, 9, 15, 15)]) (htb.trans rfl) (fun z9 hz => absurd hz List.not_mem_nil) (by decide) (by decide) (hts (Cond.classLink RL 28 (exN 1)) (List.mem_of_getElem? (i := 1) rfl)) h1 h2 h3 ?_
      refine lv_astore_n (lv' := [(3, .ref q9), (0, .ref (xa 0)), (1, .int x1), (2, .ref oa)]) hx hb dL_deliver_12 rfl hl (by decide) rfl (fun ls hl => ?_)
      refine lv_iconst (v := (1 : Int32)) hx hb dL_deliver_13 (by decide) ?_
      exact hx_iret hx hb hr hlocks hP hS (Nat.le_refl _) (Nat.le_refl _) dL_deliver_14 k1.symm (by rw [oV, if_neg (by omega)])
    · rw [k0] at h3
      refine hx_catch (i := 3) hown hF (tableOf [(0, 9, 12, 28)]) ⟨0, 9, 15, 15⟩ (tableOf []) (htb.trans rfl) (fun z9 hz => by
        simp only [tableOf, List.map, List.mem_cons, List.not_mem_nil, or_false] at hz
        rcases hz with rfl
        · exact ⟨by decide, 1, hts (Cond.classLink RL 28 (exN 1)) (List.mem_of_getElem? (i := 1) rfl), by decide⟩) (by decide) (by decide) (hts (Cond.classLink RL 15 (exN 3)) (List.mem_of_getElem? (i := 2) rfl)) h1 h2 h3 ?_
      refine lv_astore_n (lv' := [(3, .ref q9), (0, .ref (xa 0)), (1, .int x1), (2, .ref oa)]) hx hb dL_deliver_15 rfl hl (by decide) rfl (fun ls hl => ?_)
      refine lv_iconst (v := (2 : Int32)) hx hb dL_deliver_16 (by decide) ?_
      exact hx_iret hx hb hr hlocks hP hS (Nat.le_refl _) (Nat.le_refl _) dL_deliver_17 k1.symm (by rw [oV, if_neg (by omega)])
  refine lv_i2l hx hb dL_deliver_7 rfl ?_
  refine va_last hx hb hG.1 hP hD hS 0 3 rfl rfl (bd_of (by decide) (by decide)) dL_deliver_8 (fun H locs hP hD hS => ?_)
  refine lv_goto (tgt := 18) hx hb dL_deliver_9 (by decide) ?_
  refine lv_iconst (v := (0 : Int32)) hx hb dL_deliver_18 (by decide) ?_
  refine hx_iret hx hb hr hlocks hP hS (Nat.le_refl _) (Nat.le_refl _) dL_deliver_19 ?_ (by rw [oV, if_pos h0]; rfl)
  rcases hk with ⟨k0, k1⟩ | ⟨k0, k1⟩ | ⟨k0, k1⟩
  · exact k1.symm
  · exact absurd k0 (by omega)
  · exact absurd k0 (by omega)
set_option maxRecDepth 20000 in
theorem c_L_take (l : Launch) (hl0 : l.stackTraces = false) (D : va_G) (cy : Nat → ClassId) (t : FxA) (xa sa sb tr na : Nat → Nat) (ka : Nat → Nat → Nat) (oa : Nat) (f : Nat → Int64) {T : Int} {z : SpT} {mo : MoT} (H : PR T z mo) (x1 : Int32) (x2 : Int32) (x3 : Int32) {k : Int32} (hk : ((m_X8_take z x1 x2 x3).1 = 0 ∧ k = 0) ∨ ∃ e ∈ eb, (m_X8_take z x1 x2 x3).1 = e.1 ∧ k = e.2) : HX l D cy t yL_take wsL_take (wO cy oa f (wSp cy xa sa sb tr na ka z)) (wO cy oa (oV f (m_X8_take z x1 x2 x3).1 (m_X8_take z x1 x2 x3).2.1) (wSp cy xa sa sb tr na ka (m_X8_take z x1 x2 x3).2.2)) [.ref (xa 0), .int x1, .int x2, .int x3, .ref oa] k := by
  refine HX.body (hh := [(0, 12, 15, 28), (0, 12, 19, 15)]) (by decide) rfl (Nat.le_of_ble_eq_true rfl) ?_
  intro p e s m below meth c hx hb hml htb hr hts hown hlocks hP hG ls hl A hD hA hS hF
  have hl : lv_has ls 6 [(0, .ref (xa 0)), (1, .int x1), (2, .int x2), (3, .int x3), (4, .ref oa)] := hl
  have hCF : CallFix p m c cL_take 6 s ([.ref (xa 0), .int x1, .int x2, .int x3, .ref oa] : List Value).toArray wsL_take RL := ⟨hx, hb, hml, hown, hts⟩
  have hk := in_eb hk
  refine lv_aload hx hb dL_take_0 (lv_at hl 4 rfl) ?_
  refine lv_iconst (v := (0 : Int32)) hx hb dL_take_2 (by decide) ?_
  refine lv_aload_n hx hb dL_take_3 rfl (lv_at hl 0 rfl) ?_
  refine lv_iload_n hx hb dL_take_4 rfl (lv_at hl 1 rfl) ?_
  refine lv_iload_n hx hb dL_take_5 rfl (lv_at hl 2 rfl) ?_
  refine lv_iload_n hx hb dL_take_6 rfl (lv_at hl 3 rfl) ?_
  refine exV (ci := 6) (A0 := A) (As := [.int x1, .int x2, .int x3]) (rest := [.int (0 : Int32), .ref oa]) (W1 := (wO cy oa f (wSp cy xa sa sb tr na ka z))) (W2 := wO cy oa f (wSp cy xa sa sb tr na ka (m_X8_take z x1 x2 x3).2.2)) ((c_X8_take l hl0 D cy t xa sa sb tr na ka z x1 x2 x3 H.hi H.st).out oa f) hCF gL_take_X8_take rfl hq_X8_take ⟨rfl, rfl, Nat.le_of_ble_eq_true rfl, Nat.le_of_ble_eq_true rfl⟩ hG hF hP hD hS hA (congrArg (List.cons oa) h_Sp) rfl rfl (List.mem_cons_of_mem _ (List.mem_of_getElem? g_Sp_0)) rfl hl.1 rfl (Nat.le_of_ble_eq_true rfl) dL_take_7 ⟨Nat.le_of_ble_eq_true rfl, Nat.le_of_ble_eq_true rfl⟩ (fun h0 ce q9 H locs hP hD hS h1 h2 h3 => ?_) (fun h0 H locs hP hD hS => ?_)
  · rcases hk with ⟨k0, k1⟩ | ⟨k0, k1⟩ | ⟨k0, k1⟩
    · exact absurd k0 (by omega)
    · rw [k0] at h3
      refine hx_catch (i := 1) hown hF (tableOf []) ⟨0, 12, 15, 28⟩ (tableOf [(0, 12, 19, 15)]) (htb.trans rfl) (fun z9 hz => absurd hz List.not_mem_nil) (by decide) (by decide) (hts (Cond.classLink RL 28 (exN 1)) (List.mem_of_getElem? (i := 1) rfl)) h1 h2 h3 ?_
      refine lv_astore (lv' := [(5, .ref q9), (0, .ref (xa 0)), (1, .int x1), (2, .int x2), (3, .int x3), (4, .ref oa)]) hx hb dL_take_15 hl (by decide) rfl (fun ls hl => ?_)
      refine lv_iconst (v := (1 : Int32)) hx hb dL_take_17 (by decide) ?_
      exact hx_iret hx hb hr hlocks hP hS (Nat.le_refl _) (Nat.le_refl _) dL_take_18 k1.symm (by rw [oV, if_neg (by omega)])
    · rw [k0] at h3
      refine hx_catch (i := 3) hown hF (tableOf [(0, 12, 15, 28)]) ⟨0, 12, 19, 15⟩ (tableOf []) (htb.trans rfl) (fun z9 hz => by
        simp only [tableOf, List.map, List.mem_cons, List.not_mem_nil, or_false] at hz
        rcases hz with rfl
        · exact ⟨by decide, 1, hts (Cond.classLink RL 28 (exN 1)) (List.mem_of_getElem? (i := 1) rfl), by decide⟩) (by decide) (by decide) (hts (Cond.classLink RL 15 (exN 3)) (List.mem_of_getElem? (i := 2) rfl)) h1 h2 h3 ?_
      refine lv_astore (lv' := [(5, .ref q9), (0, .ref (xa 0)), (1, .int x1), (2, .int x2), (3, .int x3), (4, .ref oa)]) hx hb dL_take_19 hl (by decide) rfl (fun ls hl => ?_)
      refine lv_iconst (v := (2 : Int32)) hx hb dL_take_21 (by decide) ?_
      exact hx_iret hx hb hr hlocks hP hS (Nat.le_refl _) (Nat.le_refl _) dL_take_22 k1.symm (by rw [oV, if_neg (by omega)])
  refine lv_i2l hx hb dL_take_10 rfl ?_
  refine va_last hx hb hG.1 hP hD hS 0 3 rfl rfl (bd_of (by decide) (by decide)) dL_take_11 (fun H locs hP hD hS => ?_)
  refine lv_goto (tgt := 23) hx hb dL_take_12 (by decide) ?_
  refine lv_iconst (v := (0 : Int32)) hx hb dL_take_23 (by decide) ?_
  refine hx_iret hx hb hr hlocks hP hS (Nat.le_refl _) (Nat.le_refl _) dL_take_24 ?_ (by rw [oV, if_pos h0]; rfl)
  rcases hk with ⟨k0, k1⟩ | ⟨k0, k1⟩ | ⟨k0, k1⟩
  · exact k1.symm
  · exact absurd k0 (by omega)
  · exact absurd k0 (by omega)
set_option maxRecDepth 20000 in
theorem c_L_settle (l : Launch) (hl0 : l.stackTraces = false) (D : va_G) (cy : Nat → ClassId) (t : FxA) (xa sa sb tr na : Nat → Nat) (ka : Nat → Nat → Nat) (oa : Nat) (f : Nat → Int64) {T : Int} {z : SpT} {mo : MoT} (H : PR T z mo) (x1 : Int32) (x2 : Int32) (x3 : Int32) (x4 : Int32) {k : Int32} (hk : ((m_X8_settle z x1 x2 x3 x4).1 = 0 ∧ k = 0) ∨ ∃ e ∈ eb, (m_X8_settle z x1 x2 x3 x4).1 = e.1 ∧ k = e.2) : HX l D cy t yL_settle wsL_settle (wO cy oa f (wSp cy xa sa sb tr na ka z)) (wO cy oa (oV f (m_X8_settle z x1 x2 x3 x4).1 (m_X8_settle z x1 x2 x3 x4).2.1) (wSp cy xa sa sb tr na ka (m_X8_settle z x1 x2 x3 x4).2.2)) [.ref (xa 0), .int x1, .int x2, .int x3, .int x4, .ref oa] k := by
  refine HX.body (hh := [(0, 14, 17, 28), (0, 14, 21, 15)]) (by decide) rfl (Nat.le_of_ble_eq_true rfl) ?_
  intro p e s m below meth c hx hb hml htb hr hts hown hlocks hP hG ls hl A hD hA hS hF
  have hl : lv_has ls 7 [(0, .ref (xa 0)), (1, .int x1), (2, .int x2), (3, .int x3), (4, .int x4), (5, .ref oa)] := hl
  have hCF : CallFix p m c cL_settle 7 s ([.ref (xa 0), .int x1, .int x2, .int x3, .int x4, .ref oa] : List Value).toArray wsL_settle RL := ⟨hx, hb, hml, hown, hts⟩
  have hk := in_eb hk
  refine lv_aload hx hb dL_settle_0 (lv_at hl 5 rfl) ?_
  refine lv_iconst (v := (0 : Int32)) hx hb dL_settle_2 (by decide) ?_
  refine lv_aload_n hx hb dL_settle_3 rfl (lv_at hl 0 rfl) ?_
  refine lv_iload_n hx hb dL_settle_4 rfl (lv_at hl 1 rfl) ?_
  refine lv_iload_n hx hb dL_settle_5 rfl (lv_at hl 2 rfl) ?_
  refine lv_iload_n hx hb dL_settle_6 rfl (lv_at hl 3 rfl) ?_
  refine lv_iload hx hb dL_settle_7 (lv_at hl 4 rfl) ?_
  refine exV (ci := 6) (A0 := A) (As := [.int x1, .int x2, .int x3, .int x4]) (rest := [.int (0 : Int32), .ref oa]) (W1 := (wO cy oa f (wSp cy xa sa sb tr na ka z))) (W2 := wO cy oa f (wSp cy xa sa sb tr na ka (m_X8_settle z x1 x2 x3 x4).2.2)) ((c_X8_settle l hl0 D cy t xa sa sb tr na ka z x1 x2 x3 x4 H.hi H.st).out oa f) hCF gL_settle_X8_settle rfl hq_X8_settle ⟨rfl, rfl, Nat.le_of_ble_eq_true rfl, Nat.le_of_ble_eq_true rfl⟩ hG hF hP hD hS hA (congrArg (List.cons oa) h_Sp) rfl rfl (List.mem_cons_of_mem _ (List.mem_of_getElem? g_Sp_0)) rfl hl.1 rfl (Nat.le_of_ble_eq_true rfl) dL_settle_9 ⟨Nat.le_of_ble_eq_true rfl, Nat.le_of_ble_eq_true rfl⟩ (fun h0 ce q9 H locs hP hD hS h1 h2 h3 => ?_) (fun h0 H locs hP hD hS => ?_)
  · rcases hk with ⟨k0, k1⟩ | ⟨k0, k1⟩ | ⟨k0, k1⟩
    · exact absurd k0 (by omega)
    · rw [k0] at h3
      refine hx_catch (i := 1) hown hF (tableOf []) ⟨0, 14, 17, 28⟩ (tableOf [(0, 14, 21, 15)]) (htb.trans rfl) (fun z9 hz => absurd hz List.not_mem_nil) (by decide) (by decide) (hts (Cond.classLink RL 28 (exN 1)) (List.mem_of_getElem? (i := 1) rfl)) h1 h2 h3 ?_
      refine lv_astore (lv' := [(6, .ref q9), (0, .ref (xa 0)), (1, .int x1), (2, .int x2), (3, .int x3), (4, .int x4), (5, .ref oa)]) hx hb dL_settle_17 hl (by decide) rfl (fun ls hl => ?_)
      refine lv_iconst (v := (1 : Int32)) hx hb dL_settle_19 (by decide) ?_
      exact hx_iret hx hb hr hlocks hP hS (Nat.le_refl _) (Nat.le_refl _) dL_settle_20 k1.symm (by rw [oV, if_neg (by omega)])
    · rw [k0] at h3
      refine hx_catch (i := 3) hown hF (tableOf [(0, 14, 17, 28)]) ⟨0, 14, 21, 15⟩ (tableOf []) (htb.trans rfl) (fun z9 hz => by
        simp only [tableOf, List.map, List.mem_cons, List.not_mem_nil, or_false] at hz
        rcases hz with rfl
        · exact ⟨by decide, 1, hts (Cond.classLink RL 28 (exN 1)) (List.mem_of_getElem? (i := 1) rfl), by decide⟩) (by decide) (by decide) (hts (Cond.classLink RL 15 (exN 3)) (List.mem_of_getElem? (i := 2) rfl)) h1 h2 h3 ?_
      refine lv_astore (lv' := [(6, .ref q9), (0, .ref (xa 0)), (1, .int x1), (2, .int x2), (3, .int x3), (4, .int x4), (5, .ref oa)]) hx hb dL_settle_21 hl (by decide) rfl (fun ls hl => ?_)
      refine lv_iconst (v := (2 : Int32)) hx hb dL_settle_23 (by decide) ?_
      exact hx_iret hx hb hr hlocks hP hS (Nat.le_refl _) (Nat.le_refl _) dL_settle_24 k1.symm (by rw [oV, if_neg (by omega)])
  refine lv_i2l hx hb dL_settle_12 rfl ?_
  refine va_last hx hb hG.1 hP hD hS 0 3 rfl rfl (bd_of (by decide) (by decide)) dL_settle_13 (fun H locs hP hD hS => ?_)
  refine lv_goto (tgt := 25) hx hb dL_settle_14 (by decide) ?_
  refine lv_iconst (v := (0 : Int32)) hx hb dL_settle_25 (by decide) ?_
  refine hx_iret hx hb hr hlocks hP hS (Nat.le_refl _) (Nat.le_refl _) dL_settle_26 ?_ (by rw [oV, if_pos h0]; rfl)
  rcases hk with ⟨k0, k1⟩ | ⟨k0, k1⟩ | ⟨k0, k1⟩
  · exact k1.symm
  · exact absurd k0 (by omega)
  · exact absurd k0 (by omega)
set_option maxRecDepth 20000 in
theorem c_L_buy (l : Launch) (hl0 : l.stackTraces = false) (D : va_G) (cy : Nat → ClassId) (t : FxA) (xa sa sb tr na : Nat → Nat) (ka : Nat → Nat → Nat) (oa : Nat) (f : Nat → Int64) {T : Int} {z : SpT} {mo : MoT} (H : PR T z mo) (x1 : Int32) (x2 : Int32) {k : Int32} (hk : ((m_X8_buy z x1 x2).1 = 0 ∧ k = 0) ∨ ∃ e ∈ eb, (m_X8_buy z x1 x2).1 = e.1 ∧ k = e.2) : HX l D cy t yL_buy wsL_buy (wO cy oa f (wSp cy xa sa sb tr na ka z)) (wO cy oa (oV f (m_X8_buy z x1 x2).1 (m_X8_buy z x1 x2).2.1) (wSp cy xa sa sb tr na ka (m_X8_buy z x1 x2).2.2)) [.ref (xa 0), .int x1, .int x2, .ref oa] k := by
  refine HX.body (hh := [(0, 10, 13, 28), (0, 10, 17, 15)]) (by decide) rfl (Nat.le_of_ble_eq_true rfl) ?_
  intro p e s m below meth c hx hb hml htb hr hts hown hlocks hP hG ls hl A hD hA hS hF
  have hl : lv_has ls 5 [(0, .ref (xa 0)), (1, .int x1), (2, .int x2), (3, .ref oa)] := hl
  have hCF : CallFix p m c cL_buy 5 s ([.ref (xa 0), .int x1, .int x2, .ref oa] : List Value).toArray wsL_buy RL := ⟨hx, hb, hml, hown, hts⟩
  have hk := in_eb hk
  refine lv_aload_n hx hb dL_buy_0 rfl (lv_at hl 3 rfl) ?_
  refine lv_iconst (v := (0 : Int32)) hx hb dL_buy_1 (by decide) ?_
  refine lv_aload_n hx hb dL_buy_2 rfl (lv_at hl 0 rfl) ?_
  refine lv_iload_n hx hb dL_buy_3 rfl (lv_at hl 1 rfl) ?_
  refine lv_iload_n hx hb dL_buy_4 rfl (lv_at hl 2 rfl) ?_
  refine exV (ci := 6) (A0 := A) (As := [.int x1, .int x2]) (rest := [.int (0 : Int32), .ref oa]) (W1 := (wO cy oa f (wSp cy xa sa sb tr na ka z))) (W2 := wO cy oa f (wSp cy xa sa sb tr na ka (m_X8_buy z x1 x2).2.2)) ((c_X8_buy l hl0 D cy t xa sa sb tr na ka z x1 x2 H.hi H.st).out oa f) hCF gL_buy_X8_buy rfl hq_X8_buy ⟨rfl, rfl, Nat.le_of_ble_eq_true rfl, Nat.le_of_ble_eq_true rfl⟩ hG hF hP hD hS hA (congrArg (List.cons oa) h_Sp) rfl rfl (List.mem_cons_of_mem _ (List.mem_of_getElem? g_Sp_0)) rfl hl.1 rfl (Nat.le_of_ble_eq_true rfl) dL_buy_5 ⟨Nat.le_of_ble_eq_true rfl, Nat.le_of_ble_eq_true rfl⟩ (fun h0 ce q9 H locs hP hD hS h1 h2 h3 => ?_) (fun h0 H locs hP hD hS => ?_)
  · rcases hk with ⟨k0, k1⟩ | ⟨k0, k1⟩ | ⟨k0, k1⟩
    · exact absurd k0 (by omega)
    · rw [k0] at h3
      refine hx_catch (i := 1) hown hF (tableOf []) ⟨0, 10, 13, 28⟩ (tableOf [(0, 10, 17, 15)]) (htb.trans rfl) (fun z9 hz => absurd hz List.not_mem_nil) (by decide) (by decide) (hts (Cond.classLink RL 28 (exN 1)) (List.mem_of_getElem? (i := 1) rfl)) h1 h2 h3 ?_
      refine lv_astore (lv' := [(4, .ref q9), (0, .ref (xa 0)), (1, .int x1), (2, .int x2), (3, .ref oa)]) hx hb dL_buy_13 hl (by decide) rfl (fun ls hl => ?_)
      refine lv_iconst (v := (1 : Int32)) hx hb dL_buy_15 (by decide) ?_
      exact hx_iret hx hb hr hlocks hP hS (Nat.le_refl _) (Nat.le_refl _) dL_buy_16 k1.symm (by rw [oV, if_neg (by omega)])
    · rw [k0] at h3
      refine hx_catch (i := 3) hown hF (tableOf [(0, 10, 13, 28)]) ⟨0, 10, 17, 15⟩ (tableOf []) (htb.trans rfl) (fun z9 hz => by
        simp only [tableOf, List.map, List.mem_cons, List.not_mem_nil, or_false] at hz
        rcases hz with rfl
        · exact ⟨by decide, 1, hts (Cond.classLink RL 28 (exN 1)) (List.mem_of_getElem? (i := 1) rfl), by decide⟩) (by decide) (by decide) (hts (Cond.classLink RL 15 (exN 3)) (List.mem_of_getElem? (i := 2) rfl)) h1 h2 h3 ?_
      refine lv_astore (lv' := [(4, .ref q9), (0, .ref (xa 0)), (1, .int x1), (2, .int x2), (3, .ref oa)]) hx hb dL_buy_17 hl (by decide) rfl (fun ls hl => ?_)
      refine lv_iconst (v := (2 : Int32)) hx hb dL_buy_19 (by decide) ?_
      exact hx_iret hx hb hr hlocks hP hS (Nat.le_refl _) (Nat.le_refl _) dL_buy_20 k1.symm (by rw [oV, if_neg (by omega)])
  refine lv_i2l hx hb dL_buy_8 rfl ?_
  refine va_last hx hb hG.1 hP hD hS 0 3 rfl rfl (bd_of (by decide) (by decide)) dL_buy_9 (fun H locs hP hD hS => ?_)
  refine lv_goto (tgt := 21) hx hb dL_buy_10 (by decide) ?_
  refine lv_iconst (v := (0 : Int32)) hx hb dL_buy_21 (by decide) ?_
  refine hx_iret hx hb hr hlocks hP hS (Nat.le_refl _) (Nat.le_refl _) dL_buy_22 ?_ (by rw [oV, if_pos h0]; rfl)
  rcases hk with ⟨k0, k1⟩ | ⟨k0, k1⟩ | ⟨k0, k1⟩
  · exact k1.symm
  · exact absurd k0 (by omega)
  · exact absurd k0 (by omega)
set_option maxRecDepth 20000 in
theorem c_L_days (l : Launch) (hl0 : l.stackTraces = false) (D : va_G) (cy : Nat → ClassId) (t : FxA) (xa sa sb tr na : Nat → Nat) (ka : Nat → Nat → Nat) (oa : Nat) (f : Nat → Int64) {T : Int} {z : SpT} {mo : MoT} (H : PR T z mo) (x1 : Int32) {k : Int32} (hk : ((m_X8_days z x1).1 = 0 ∧ k = 0) ∨ ∃ e ∈ ec, (m_X8_days z x1).1 = e.1 ∧ k = e.2) : HX l D cy t yL_days wsL_days (wO cy oa f (wSp cy xa sa sb tr na ka z)) (wO cy oa (oV f (m_X8_days z x1).1 (m_X8_days z x1).2.1) (wSp cy xa sa sb tr na ka (m_X8_days z x1).2.2)) [.ref (xa 0), .int x1, .ref oa] k := by
  refine HX.body (hh := [(0, 9, 12, 13)]) (by decide) rfl (Nat.le_of_ble_eq_true rfl) ?_
  intro p e s m below meth c hx hb hml htb hr hts hown hlocks hP hG ls hl A hD hA hS hF
  have hl : lv_has ls 4 [(0, .ref (xa 0)), (1, .int x1), (2, .ref oa)] := hl
  have hCF : CallFix p m c cL_days 4 s ([.ref (xa 0), .int x1, .ref oa] : List Value).toArray wsL_days RL := ⟨hx, hb, hml, hown, hts⟩
  have hk := in_ec hk
  refine lv_aload_n hx hb dL_days_0 rfl (lv_at hl 2 rfl) ?_
  refine lv_iconst (v := (0 : Int32)) hx hb dL_days_1 (by decide) ?_
  refine lv_aload_n hx hb dL_days_2 rfl (lv_at hl 0 rfl) ?_
  refine lv_iload_n hx hb dL_days_3 rfl (lv_at hl 1 rfl) ?_
  refine exV (ci := 6) (A0 := A) (As := [.int x1]) (rest := [.int (0 : Int32), .ref oa]) (W1 := (wO cy oa f (wSp cy xa sa sb tr na ka z))) (W2 := wO cy oa f (wSp cy xa sa sb tr na ka (m_X8_days z x1).2.2)) ((c_X8_days l hl0 D cy t xa sa sb tr na ka z x1 H.hi H.st).out oa f) hCF gL_days_X8_days rfl hq_X8_days ⟨rfl, rfl, Nat.le_of_ble_eq_true rfl, Nat.le_of_ble_eq_true rfl⟩ hG hF hP hD hS hA (congrArg (List.cons oa) h_Sp) rfl rfl (List.mem_cons_of_mem _ (List.mem_of_getElem? g_Sp_0)) rfl hl.1 rfl (Nat.le_of_ble_eq_true rfl) dL_days_4 ⟨Nat.le_of_ble_eq_true rfl, Nat.le_of_ble_eq_true rfl⟩ (fun h0 ce q9 H locs hP hD hS h1 h2 h3 => ?_) (fun h0 H locs hP hD hS => ?_)
  · rcases hk with ⟨k0, k1⟩ | ⟨k0, k1⟩
    · exact absurd k0 (by omega)
    · rw [k0] at h3
      refine hx_catch (i := 2) hown hF (tableOf []) ⟨0, 9, 12, 13⟩ (tableOf []) (htb.trans rfl) (fun z9 hz => absurd hz List.not_mem_nil) (by decide) (by decide) (hts (Cond.classLink RL 13 (exN 2)) (List.mem_of_getElem? (i := 1) rfl)) h1 h2 h3 ?_
      refine lv_astore_n (lv' := [(3, .ref q9), (0, .ref (xa 0)), (1, .int x1), (2, .ref oa)]) hx hb dL_days_12 rfl hl (by decide) rfl (fun ls hl => ?_)
      refine lv_iconst (v := (1 : Int32)) hx hb dL_days_13 (by decide) ?_
      exact hx_iret hx hb hr hlocks hP hS (Nat.le_refl _) (Nat.le_refl _) dL_days_14 k1.symm (by rw [oV, if_neg (by omega)])
  refine lv_i2l hx hb dL_days_7 rfl ?_
  refine va_last hx hb hG.1 hP hD hS 0 3 rfl rfl (bd_of (by decide) (by decide)) dL_days_8 (fun H locs hP hD hS => ?_)
  refine lv_goto (tgt := 15) hx hb dL_days_9 (by decide) ?_
  refine lv_iconst (v := (0 : Int32)) hx hb dL_days_15 (by decide) ?_
  refine hx_iret hx hb hr hlocks hP hS (Nat.le_refl _) (Nat.le_refl _) dL_days_16 ?_ (by rw [oV, if_pos h0]; rfl)
  rcases hk with ⟨k0, k1⟩ | ⟨k0, k1⟩
  · exact k1.symm
  · exact absurd k0 (by omega)
set_option maxRecDepth 20000 in
theorem c_L_set (l : Launch) (hl0 : l.stackTraces = false) (D : va_G) (cy : Nat → ClassId) (t : FxA) (xa sa sb tr na : Nat → Nat) (ka : Nat → Nat → Nat) (oa : Nat) (f : Nat → Int64) {T : Int} {z : SpT} {mo : MoT} (H : PR T z mo) (x1 : Int32) (x2 : Int32) {k : Int32} (hk : ((m_X8_set z x1 x2).1 = 0 ∧ k = 0) ∨ ∃ e ∈ ec, (m_X8_set z x1 x2).1 = e.1 ∧ k = e.2) : HX l D cy t yL_set wsL_set (wO cy oa f (wSp cy xa sa sb tr na ka z)) (wO cy oa (oV f (m_X8_set z x1 x2).1 (m_X8_set z x1 x2).2.1) (wSp cy xa sa sb tr na ka (m_X8_set z x1 x2).2.2)) [.ref (xa 0), .int x1, .int x2, .ref oa] k := by
  refine HX.body (hh := [(0, 10, 13, 13)]) (by decide) rfl (Nat.le_of_ble_eq_true rfl) ?_
  intro p e s m below meth c hx hb hml htb hr hts hown hlocks hP hG ls hl A hD hA hS hF
  have hl : lv_has ls 5 [(0, .ref (xa 0)), (1, .int x1), (2, .int x2), (3, .ref oa)] := hl
  have hCF : CallFix p m c cL_set 5 s ([.ref (xa 0), .int x1, .int x2, .ref oa] : List Value).toArray wsL_set RL := ⟨hx, hb, hml, hown, hts⟩
  have hk := in_ec hk
  refine lv_aload_n hx hb dL_set_0 rfl (lv_at hl 3 rfl) ?_
  refine lv_iconst (v := (0 : Int32)) hx hb dL_set_1 (by decide) ?_
  refine lv_aload_n hx hb dL_set_2 rfl (lv_at hl 0 rfl) ?_
  refine lv_iload_n hx hb dL_set_3 rfl (lv_at hl 1 rfl) ?_
  refine lv_iload_n hx hb dL_set_4 rfl (lv_at hl 2 rfl) ?_
  refine exV (ci := 6) (A0 := A) (As := [.int x1, .int x2]) (rest := [.int (0 : Int32), .ref oa]) (W1 := (wO cy oa f (wSp cy xa sa sb tr na ka z))) (W2 := wO cy oa f (wSp cy xa sa sb tr na ka (m_X8_set z x1 x2).2.2)) ((c_X8_set l hl0 D cy t xa sa sb tr na ka z x1 x2 H.hi H.st).out oa f) hCF gL_set_X8_set rfl hq_X8_set ⟨rfl, rfl, Nat.le_of_ble_eq_true rfl, Nat.le_of_ble_eq_true rfl⟩ hG hF hP hD hS hA (congrArg (List.cons oa) h_Sp) rfl rfl (List.mem_cons_of_mem _ (List.mem_of_getElem? g_Sp_0)) rfl hl.1 rfl (Nat.le_of_ble_eq_true rfl) dL_set_5 ⟨Nat.le_of_ble_eq_true rfl, Nat.le_of_ble_eq_true rfl⟩ (fun h0 ce q9 H locs hP hD hS h1 h2 h3 => ?_) (fun h0 H locs hP hD hS => ?_)
  · rcases hk with ⟨k0, k1⟩ | ⟨k0, k1⟩
    · exact absurd k0 (by omega)
    · rw [k0] at h3
      refine hx_catch (i := 2) hown hF (tableOf []) ⟨0, 10, 13, 13⟩ (tableOf []) (htb.trans rfl) (fun z9 hz => absurd hz List.not_mem_nil) (by decide) (by decide) (hts (Cond.classLink RL 13 (exN 2)) (List.mem_of_getElem? (i := 1) rfl)) h1 h2 h3 ?_
      refine lv_astore (lv' := [(4, .ref q9), (0, .ref (xa 0)), (1, .int x1), (2, .int x2), (3, .ref oa)]) hx hb dL_set_13 hl (by decide) rfl (fun ls hl => ?_)
      refine lv_iconst (v := (1 : Int32)) hx hb dL_set_15 (by decide) ?_
      exact hx_iret hx hb hr hlocks hP hS (Nat.le_refl _) (Nat.le_refl _) dL_set_16 k1.symm (by rw [oV, if_neg (by omega)])
  refine lv_i2l hx hb dL_set_8 rfl ?_
  refine va_last hx hb hG.1 hP hD hS 0 3 rfl rfl (bd_of (by decide) (by decide)) dL_set_9 (fun H locs hP hD hS => ?_)
  refine lv_goto (tgt := 17) hx hb dL_set_10 (by decide) ?_
  refine lv_iconst (v := (0 : Int32)) hx hb dL_set_17 (by decide) ?_
  refine hx_iret hx hb hr hlocks hP hS (Nat.le_refl _) (Nat.le_refl _) dL_set_18 ?_ (by rw [oV, if_pos h0]; rfl)
  rcases hk with ⟨k0, k1⟩ | ⟨k0, k1⟩
  · exact k1.symm
  · exact absurd k0 (by omega)
