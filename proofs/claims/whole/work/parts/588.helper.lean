/-! helpers of the law -/
set_option maxRecDepth 20000 in
theorem c_L_undo (l : Launch) (hl0 : l.stackTraces = false) (D : va_G) (cy : Nat → ClassId) (t : FxA) (xa sa sb tr na : Nat → Nat) (ka : Nat → Nat → Nat) (oa : Nat) (f : Nat → Int64) {T : Int} {z : SpT} {mo : MoT} (H : PR T z mo) {k : Int32} (hk : ((m_X8_undo z).1 = 0 ∧ k = 0) ∨ ∃ e ∈ ef, (m_X8_undo z).1 = e.1 ∧ k = e.2) : HX l D cy t yL_undo wsL_undo (wO cy oa f (wSp cy xa sa sb tr na ka z)) (wO cy oa (oV f (m_X8_undo z).1 (m_X8_undo z).2.1) (wSp cy xa sa sb tr na ka (m_X8_undo z).2.2)) [.ref (xa 0), .ref oa] k := by
  refine HX.body (hh := [(0, 8, 11, 15)]) (by decide) rfl (Nat.le_of_ble_eq_true rfl) ?_
  intro p e s m below meth c hx hb hml htb hr hts hown hlocks hP hG ls hl A hD hA hS hF
  have hl : lv_has ls 3 [(0, .ref (xa 0)), (1, .ref oa)] := hl
  have hCF : CallFix p m c cL_undo 3 s ([.ref (xa 0), .ref oa] : List Value).toArray wsL_undo RL := ⟨hx, hb, hml, hown, hts⟩
  have hk := in_ef hk
  refine lv_aload_n hx hb dL_undo_0 rfl (lv_at hl 1 rfl) ?_
  refine lv_iconst (v := (0 : Int32)) hx hb dL_undo_1 (by decide) ?_
  refine lv_aload_n hx hb dL_undo_2 rfl (lv_at hl 0 rfl) ?_
  refine exV (ci := 6) (A0 := A) (As := []) (rest := [.int (0 : Int32), .ref oa]) (W1 := (wO cy oa f (wSp cy xa sa sb tr na ka z))) (W2 := wO cy oa f (wSp cy xa sa sb tr na ka (m_X8_undo z).2.2)) ((c_X8_undo l hl0 D cy t xa sa sb tr na ka z H.hi).out oa f) hCF gL_undo_X8_undo rfl hq_X8_undo ⟨rfl, rfl, Nat.le_of_ble_eq_true rfl, Nat.le_of_ble_eq_true rfl⟩ hG hF hP hD hS hA (congrArg (List.cons oa) h_Sp) rfl rfl (List.mem_cons_of_mem _ (List.mem_of_getElem? g_Sp_0)) rfl hl.1 rfl (Nat.le_of_ble_eq_true rfl) dL_undo_3 ⟨Nat.le_of_ble_eq_true rfl, Nat.le_of_ble_eq_true rfl⟩ (fun h0 ce q9 H locs hP hD hS h1 h2 h3 => ?_) (fun h0 H locs hP hD hS => ?_)
  · rcases hk with ⟨k0, k1⟩ | ⟨k0, k1⟩
    · exact absurd k0 (by omega)
    · rw [k0] at h3
      refine hx_catch (i := 3) hown hF (tableOf []) ⟨0, 8, 11, 15⟩ (tableOf []) (htb.trans rfl) (fun z9 hz => absurd hz List.not_mem_nil) (by decide) (by decide) (hts (Cond.classLink RL 15 (exN 3)) (List.mem_of_getElem? (i := 1) rfl)) h1 h2 h3 ?_
      refine lv_astore_n (lv' := [(2, .ref q9), (0, .ref (xa 0)), (1, .ref oa)]) hx hb dL_undo_11 rfl hl (by decide) rfl (fun ls hl => ?_)
      refine lv_iconst (v := (1 : Int32)) hx hb dL_undo_12 (by decide) ?_
      exact hx_iret hx hb hr hlocks hP hS (Nat.le_refl _) (Nat.le_refl _) dL_undo_13 k1.symm (by rw [oV, if_neg (by omega)])
  refine lv_i2l hx hb dL_undo_6 rfl ?_
  refine va_last hx hb hG.1 hP hD hS 0 3 rfl rfl (bd_of (by decide) (by decide)) dL_undo_7 (fun H locs hP hD hS => ?_)
  refine lv_goto (tgt := 14) hx hb dL_undo_8 (by decide) ?_
  refine lv_iconst (v := (0 : Int32)) hx hb dL_undo_14 (by decide) ?_
  refine hx_iret hx hb hr hlocks hP hS (Nat.le_refl _) (Nat.le_refl _) dL_undo_15 ?_ (by rw [oV, if_pos h0]; rfl)
  rcases hk with ⟨k0, k1⟩ | ⟨k0, k1⟩
  · exact k1.symm
  · exact absurd k0 (by omega)
set_option maxRecDepth 20000 in
theorem c_L_complete (l : Launch) (hl0 : l.stackTraces = false) (D : va_G) (cy : Nat → ClassId) (t : FxA) (xa sa sb tr na : Nat → Nat) (ka : Nat → Nat → Nat) (oa : Nat) (f : Nat → Int64) {T : Int} {z : SpT} {mo : MoT} (H : PR T z mo) (x1 : Int32) (x2 : Int32) {k : Int32} (hk : ((m_X8_complete z x1 x2).1 = 0 ∧ k = 0) ∨ ∃ e ∈ ee, (m_X8_complete z x1 x2).1 = e.1 ∧ k = e.2) : HX l D cy t yL_complete wsL_complete (wO cy oa f (wSp cy xa sa sb tr na ka z)) (wO cy oa (oV f (m_X8_complete z x1 x2).1 (m_X8_complete z x1 x2).2.1) (wSp cy xa sa sb tr na ka (m_X8_complete z x1 x2).2.2)) [.ref (xa 0), .int x1, .int x2, .ref oa] k := by
  refine HX.body (hh := [(0, 10, 13, 28)]) (by decide) rfl (Nat.le_of_ble_eq_true rfl) ?_
  intro p e s m below meth c hx hb hml htb hr hts hown hlocks hP hG ls hl A hD hA hS hF
  have hl : lv_has ls 5 [(0, .ref (xa 0)), (1, .int x1), (2, .int x2), (3, .ref oa)] := hl
  have hCF : CallFix p m c cL_complete 5 s ([.ref (xa 0), .int x1, .int x2, .ref oa] : List Value).toArray wsL_complete RL := ⟨hx, hb, hml, hown, hts⟩
  have hk := in_ee hk
  refine lv_aload_n hx hb dL_complete_0 rfl (lv_at hl 3 rfl) ?_
  refine lv_iconst (v := (0 : Int32)) hx hb dL_complete_1 (by decide) ?_
  refine lv_aload_n hx hb dL_complete_2 rfl (lv_at hl 0 rfl) ?_
  refine lv_iload_n hx hb dL_complete_3 rfl (lv_at hl 1 rfl) ?_
  refine lv_iload_n hx hb dL_complete_4 rfl (lv_at hl 2 rfl) ?_
  refine exV (ci := 6) (A0 := A) (As := [.int x1, .int x2]) (rest := [.int (0 : Int32), .ref oa]) (W1 := (wO cy oa f (wSp cy xa sa sb tr na ka z))) (W2 := wO cy oa f (wSp cy xa sa sb tr na ka (m_X8_complete z x1 x2).2.2)) ((c_X8_complete l hl0 D cy t xa sa sb tr na ka z x1 x2 H.st).out oa f) hCF gL_complete_X8_complete rfl hq_X8_complete ⟨rfl, rfl, Nat.le_of_ble_eq_true rfl, Nat.le_of_ble_eq_true rfl⟩ hG hF hP hD hS hA (congrArg (List.cons oa) h_Sp) rfl rfl (List.mem_cons_of_mem _ (List.mem_of_getElem? g_Sp_0)) rfl hl.1 rfl (Nat.le_of_ble_eq_true rfl) dL_complete_5 ⟨Nat.le_of_ble_eq_true rfl, Nat.le_of_ble_eq_true rfl⟩ (fun h0 ce q9 H locs hP hD hS h1 h2 h3 => ?_) (fun h0 H locs hP hD hS => ?_)
  · rcases hk with ⟨k0, k1⟩ | ⟨k0, k1⟩
    · exact absurd k0 (by omega)
    · rw [k0] at h3
      refine hx_catch (i := 1) hown hF (tableOf []) ⟨0, 10, 13, 28⟩ (tableOf []) (htb.trans rfl) (fun z9 hz => absurd hz List.not_mem_nil) (by decide) (by decide) (hts (Cond.classLink RL 28 (exN 1)) (List.mem_of_getElem? (i := 1) rfl)) h1 h2 h3 ?_
      refine lv_astore (lv' := [(4, .ref q9), (0, .ref (xa 0)), (1, .int x1), (2, .int x2), (3, .ref oa)]) hx hb dL_complete_13 hl (by decide) rfl (fun ls hl => ?_)
      refine lv_iconst (v := (1 : Int32)) hx hb dL_complete_15 (by decide) ?_
      exact hx_iret hx hb hr hlocks hP hS (Nat.le_refl _) (Nat.le_refl _) dL_complete_16 k1.symm (by rw [oV, if_neg (by omega)])
  refine lv_i2l hx hb dL_complete_8 rfl ?_
  refine va_last hx hb hG.1 hP hD hS 0 3 rfl rfl (bd_of (by decide) (by decide)) dL_complete_9 (fun H locs hP hD hS => ?_)
  refine lv_goto (tgt := 17) hx hb dL_complete_10 (by decide) ?_
  refine lv_iconst (v := (0 : Int32)) hx hb dL_complete_17 (by decide) ?_
  refine hx_iret hx hb hr hlocks hP hS (Nat.le_refl _) (Nat.le_refl _) dL_complete_18 ?_ (by rw [oV, if_pos h0]; rfl)
  rcases hk with ⟨k0, k1⟩ | ⟨k0, k1⟩
  · exact k1.symm
  · exact absurd k0 (by omega)
set_option maxRecDepth 20000 in
theorem c_L_takings (l : Launch) (hl0 : l.stackTraces = false) (D : va_G) (cy : Nat → ClassId) (t : FxA) (xa sa sb tr na : Nat → Nat) (ka : Nat → Nat → Nat) (oa : Nat) (f : Nat → Int64) {T : Int} {z : SpT} {mo : MoT} (H : PR T z mo) (x1 : Int32) (x2 : Int32) {k : Int32} (hk : ((m_X8_takings z x1 x2).1 = 0 ∧ k = 0) ∨ ∃ e ∈ ee, (m_X8_takings z x1 x2).1 = e.1 ∧ k = e.2) : HX l D cy t yL_takings wsL_takings (wO cy oa f (wSp cy xa sa sb tr na ka z)) (wO cy oa (oV f (m_X8_takings z x1 x2).1 (m_X8_takings z x1 x2).2.1) (wSp cy xa sa sb tr na ka (m_X8_takings z x1 x2).2.2)) [.ref (xa 0), .int x1, .int x2, .ref oa] k := by
  refine HX.body (hh := [(0, 10, 13, 28)]) (by decide) rfl (Nat.le_of_ble_eq_true rfl) ?_
  intro p e s m below meth c hx hb hml htb hr hts hown hlocks hP hG ls hl A hD hA hS hF
  have hl : lv_has ls 5 [(0, .ref (xa 0)), (1, .int x1), (2, .int x2), (3, .ref oa)] := hl
  have hCF : CallFix p m c cL_takings 5 s ([.ref (xa 0), .int x1, .int x2, .ref oa] : List Value).toArray wsL_takings RL := ⟨hx, hb, hml, hown, hts⟩
  have hk := in_ee hk
  refine lv_aload_n hx hb dL_takings_0 rfl (lv_at hl 3 rfl) ?_
  refine lv_iconst (v := (0 : Int32)) hx hb dL_takings_1 (by decide) ?_
  refine lv_aload_n hx hb dL_takings_2 rfl (lv_at hl 0 rfl) ?_
  refine lv_iload_n hx hb dL_takings_3 rfl (lv_at hl 1 rfl) ?_
  refine lv_iload_n hx hb dL_takings_4 rfl (lv_at hl 2 rfl) ?_
  refine exV (ci := 6) (A0 := A) (As := [.int x1, .int x2]) (rest := [.int (0 : Int32), .ref oa]) (W1 := (wO cy oa f (wSp cy xa sa sb tr na ka z))) (W2 := wO cy oa f (wSp cy xa sa sb tr na ka (m_X8_takings z x1 x2).2.2)) ((c_X8_takings l hl0 D cy t xa sa sb tr na ka z x1 x2 H.st).out oa f) hCF gL_takings_X8_takings rfl hq_X8_takings ⟨rfl, rfl, Nat.le_of_ble_eq_true rfl, Nat.le_of_ble_eq_true rfl⟩ hG hF hP hD hS hA (congrArg (List.cons oa) h_Sp) rfl rfl (List.mem_cons_of_mem _ (List.mem_of_getElem? g_Sp_0)) rfl hl.1 rfl (Nat.le_of_ble_eq_true rfl) dL_takings_5 ⟨Nat.le_of_ble_eq_true rfl, Nat.le_of_ble_eq_true rfl⟩ (fun h0 ce q9 H locs hP hD hS h1 h2 h3 => ?_) (fun h0 H locs hP hD hS => ?_)
  · rcases hk with ⟨k0, k1⟩ | ⟨k0, k1⟩
    · exact absurd k0 (by omega)
    · rw [k0] at h3
      refine hx_catch (i := 1) hown hF (tableOf []) ⟨0, 10, 13, 28⟩ (tableOf []) (htb.trans rfl) (fun z9 hz => absurd hz List.not_mem_nil) (by decide) (by decide) (hts (Cond.classLink RL 28 (exN 1)) (List.mem_of_getElem? (i := 1) rfl)) h1 h2 h3 ?_
      refine lv_astore (lv' := [(4, .ref q9), (0, .ref (xa 0)), (1, .int x1), (2, .int x2), (3, .ref oa)]) hx hb dL_takings_13 hl (by decide) rfl (fun ls hl => ?_)
      refine lv_iconst (v := (1 : Int32)) hx hb dL_takings_15 (by decide) ?_
      exact hx_iret hx hb hr hlocks hP hS (Nat.le_refl _) (Nat.le_refl _) dL_takings_16 k1.symm (by rw [oV, if_neg (by omega)])
  refine lv_i2l hx hb dL_takings_8 rfl ?_
  refine va_last hx hb hG.1 hP hD hS 0 3 rfl rfl (bd_of (by decide) (by decide)) dL_takings_9 (fun H locs hP hD hS => ?_)
  refine lv_goto (tgt := 17) hx hb dL_takings_10 (by decide) ?_
  refine lv_iconst (v := (0 : Int32)) hx hb dL_takings_17 (by decide) ?_
  refine hx_iret hx hb hr hlocks hP hS (Nat.le_refl _) (Nat.le_refl _) dL_takings_18 ?_ (by rw [oV, if_pos h0]; rfl)
  rcases hk with ⟨k0, k1⟩ | ⟨k0, k1⟩
  · exact k1.symm
  · exact absurd k0 (by omega)
set_option maxRecDepth 20000 in
theorem c_L_bill (l : Launch) (hl0 : l.stackTraces = false) (D : va_G) (cy : Nat → ClassId) (t : FxA) (xa sa sb tr na : Nat → Nat) (ka : Nat → Nat → Nat) (oa : Nat) (f : Nat → Int64) {T : Int} {z : SpT} {mo : MoT} (H : PR T z mo) (x1 : Int32) (x2 : Int32) {k : Int32} (hk : ((m_X8_bill z x1 x2).1 = 0 ∧ k = 0) ∨ ∃ e ∈ ed, (m_X8_bill z x1 x2).1 = e.1 ∧ k = e.2) : HX l D cy t yL_bill wsL_bill (wO cy oa f (wSp cy xa sa sb tr na ka z)) (wO cy oa (oV f (m_X8_bill z x1 x2).1 (m_X8_bill z x1 x2).2.1) (wSp cy xa sa sb tr na ka (m_X8_bill z x1 x2).2.2)) [.ref (xa 0), .int x1, .int x2, .ref oa] k := by
  refine HX.body (hh := [(0, 10, 13, 28), (0, 10, 17, 13)]) (by decide) rfl (Nat.le_of_ble_eq_true rfl) ?_
  intro p e s m below meth c hx hb hml htb hr hts hown hlocks hP hG ls hl A hD hA hS hF
  have hl : lv_has ls 5 [(0, .ref (xa 0)), (1, .int x1), (2, .int x2), (3, .ref oa)] := hl
  have hCF : CallFix p m c cL_bill 5 s ([.ref (xa 0), .int x1, .int x2, .ref oa] : List Value).toArray wsL_bill RL := ⟨hx, hb, hml, hown, hts⟩
  have hk := in_ed hk
  refine lv_aload_n hx hb dL_bill_0 rfl (lv_at hl 3 rfl) ?_
  refine lv_iconst (v := (0 : Int32)) hx hb dL_bill_1 (by decide) ?_
  refine lv_aload_n hx hb dL_bill_2 rfl (lv_at hl 0 rfl) ?_
  refine lv_iload_n hx hb dL_bill_3 rfl (lv_at hl 1 rfl) ?_
  refine lv_iload_n hx hb dL_bill_4 rfl (lv_at hl 2 rfl) ?_
  refine exV (ci := 6) (A0 := A) (As := [.int x1, .int x2]) (rest := [.int (0 : Int32), .ref oa]) (W1 := (wO cy oa f (wSp cy xa sa sb tr na ka z))) (W2 := wO cy oa f (wSp cy xa sa sb tr na ka (m_X8_bill z x1 x2).2.2)) ((c_X8_bill l hl0 D cy t xa sa sb tr na ka z x1 x2 H.st).out oa f) hCF gL_bill_X8_bill rfl hq_X8_bill ⟨rfl, rfl, Nat.le_of_ble_eq_true rfl, Nat.le_of_ble_eq_true rfl⟩ hG hF hP hD hS hA (congrArg (List.cons oa) h_Sp) rfl rfl (List.mem_cons_of_mem _ (List.mem_of_getElem? g_Sp_0)) rfl hl.1 rfl (Nat.le_of_ble_eq_true rfl) dL_bill_5 ⟨Nat.le_of_ble_eq_true rfl, Nat.le_of_ble_eq_true rfl⟩ (fun h0 ce q9 H locs hP hD hS h1 h2 h3 => ?_) (fun h0 H locs hP hD hS => ?_)
  · rcases hk with ⟨k0, k1⟩ | ⟨k0, k1⟩ | ⟨k0, k1⟩
    · exact absurd k0 (by omega)
    · rw [k0] at h3
      refine hx_catch (i := 1) hown hF (tableOf []) ⟨0, 10, 13, 28⟩ (tableOf [(0, 10, 17, 13)]) (htb.trans rfl) (fun z9 hz => absurd hz List.not_mem_nil) (by decide) (by decide) (hts (Cond.classLink RL 28 (exN 1)) (List.mem_of_getElem? (i := 1) rfl)) h1 h2 h3 ?_
      refine lv_astore (lv' := [(4, .ref q9), (0, .ref (xa 0)), (1, .int x1), (2, .int x2), (3, .ref oa)]) hx hb dL_bill_13 hl (by decide) rfl (fun ls hl => ?_)
      refine lv_iconst (v := (1 : Int32)) hx hb dL_bill_15 (by decide) ?_
      exact hx_iret hx hb hr hlocks hP hS (Nat.le_refl _) (Nat.le_refl _) dL_bill_16 k1.symm (by rw [oV, if_neg (by omega)])
    · rw [k0] at h3
      refine hx_catch (i := 2) hown hF (tableOf [(0, 10, 13, 28)]) ⟨0, 10, 17, 13⟩ (tableOf []) (htb.trans rfl) (fun z9 hz => by
        simp only [tableOf, List.map, List.mem_cons, List.not_mem_nil, or_false] at hz
        rcases hz with rfl
        · exact ⟨by decide, 1, hts (Cond.classLink RL 28 (exN 1)) (List.mem_of_getElem? (i := 1) rfl), by decide⟩) (by decide) (by decide) (hts (Cond.classLink RL 13 (exN 2)) (List.mem_of_getElem? (i := 2) rfl)) h1 h2 h3 ?_
      refine lv_astore (lv' := [(4, .ref q9), (0, .ref (xa 0)), (1, .int x1), (2, .int x2), (3, .ref oa)]) hx hb dL_bill_17 hl (by decide) rfl (fun ls hl => ?_)
      refine lv_iconst (v := (2 : Int32)) hx hb dL_bill_19 (by decide) ?_
      exact hx_iret hx hb hr hlocks hP hS (Nat.le_refl _) (Nat.le_refl _) dL_bill_20 k1.symm (by rw [oV, if_neg (by omega)])
  refine lv_i2l hx hb dL_bill_8 rfl ?_
  refine va_last hx hb hG.1 hP hD hS 0 3 rfl rfl (bd_of (by decide) (by decide)) dL_bill_9 (fun H locs hP hD hS => ?_)
  refine lv_goto (tgt := 21) hx hb dL_bill_10 (by decide) ?_
  refine lv_iconst (v := (0 : Int32)) hx hb dL_bill_21 (by decide) ?_
  refine hx_iret hx hb hr hlocks hP hS (Nat.le_refl _) (Nat.le_refl _) dL_bill_22 ?_ (by rw [oV, if_pos h0]; rfl)
  rcases hk with ⟨k0, k1⟩ | ⟨k0, k1⟩ | ⟨k0, k1⟩
  · exact k1.symm
  · exact absurd k0 (by omega)
  · exact absurd k0 (by omega)
set_option maxRecDepth 20000 in
theorem c_L_cheapest (l : Launch) (hl0 : l.stackTraces = false) (D : va_G) (cy : Nat → ClassId) (t : FxA) (xa sa sb tr na : Nat → Nat) (ka : Nat → Nat → Nat) (oa : Nat) (f : Nat → Int64) {T : Int} {z : SpT} {mo : MoT} (H : PR T z mo) (x1 : Int32) (x2 : Int32) {k : Int32} (hk : ((m_X8_cheapest z x1 x2).1 = 0 ∧ k = 0) ∨ ∃ e ∈ ee, (m_X8_cheapest z x1 x2).1 = e.1 ∧ k = e.2) : HX l D cy t yL_cheapest wsL_cheapest (wO cy oa f (wSp cy xa sa sb tr na ka z)) (wO cy oa (oV f (m_X8_cheapest z x1 x2).1 (m_X8_cheapest z x1 x2).2.1) (wSp cy xa sa sb tr na ka (m_X8_cheapest z x1 x2).2.2)) [.ref (xa 0), .int x1, .int x2, .ref oa] k := by
  refine HX.body (hh := [(0, 10, 13, 28)]) (by decide) rfl (Nat.le_of_ble_eq_true rfl) ?_
  intro p e s m below meth c hx hb hml htb hr hts hown hlocks hP hG ls hl A hD hA hS hF
  have hl : lv_has ls 5 [(0, .ref (xa 0)), (1, .int x1), (2, .int x2), (3, .ref oa)] := hl
  have hCF : CallFix p m c cL_cheapest 5 s ([.ref (xa 0), .int x1, .int x2, .ref oa] : List Value).toArray wsL_cheapest RL := ⟨hx, hb, hml, hown, hts⟩
  have hk := in_ee hk
  refine lv_aload_n hx hb dL_cheapest_0 rfl (lv_at hl 3 rfl) ?_
  refine lv_iconst (v := (0 : Int32)) hx hb dL_cheapest_1 (by decide) ?_
  refine lv_aload_n hx hb dL_cheapest_2 rfl (lv_at hl 0 rfl) ?_
  refine lv_iload_n hx hb dL_cheapest_3 rfl (lv_at hl 1 rfl) ?_
  refine lv_iload_n hx hb dL_cheapest_4 rfl (lv_at hl 2 rfl) ?_
  refine exV (ci := 6) (A0 := A) (As := [.int x1, .int x2]) (rest := [.int (0 : Int32), .ref oa]) (W1 := (wO cy oa f (wSp cy xa sa sb tr na ka z))) (W2 := wO cy oa f (wSp cy xa sa sb tr na ka (m_X8_cheapest z x1 x2).2.2)) ((c_X8_cheapest l hl0 D cy t xa sa sb tr na ka z x1 x2 H.st).out oa f) hCF gL_cheapest_X8_cheapest rfl hq_X8_cheapest ⟨rfl, rfl, Nat.le_of_ble_eq_true rfl, Nat.le_of_ble_eq_true rfl⟩ hG hF hP hD hS hA (congrArg (List.cons oa) h_Sp) rfl rfl (List.mem_cons_of_mem _ (List.mem_of_getElem? g_Sp_0)) rfl hl.1 rfl (Nat.le_of_ble_eq_true rfl) dL_cheapest_5 ⟨Nat.le_of_ble_eq_true rfl, Nat.le_of_ble_eq_true rfl⟩ (fun h0 ce q9 H locs hP hD hS h1 h2 h3 => ?_) (fun h0 H locs hP hD hS => ?_)
  · rcases hk with ⟨k0, k1⟩ | ⟨k0, k1⟩
    · exact absurd k0 (by omega)
    · rw [k0] at h3
      refine hx_catch (i := 1) hown hF (tableOf []) ⟨0, 10, 13, 28⟩ (tableOf []) (htb.trans rfl) (fun z9 hz => absurd hz List.not_mem_nil) (by decide) (by decide) (hts (Cond.classLink RL 28 (exN 1)) (List.mem_of_getElem? (i := 1) rfl)) h1 h2 h3 ?_
      refine lv_astore (lv' := [(4, .ref q9), (0, .ref (xa 0)), (1, .int x1), (2, .int x2), (3, .ref oa)]) hx hb dL_cheapest_13 hl (by decide) rfl (fun ls hl => ?_)
      refine lv_iconst (v := (1 : Int32)) hx hb dL_cheapest_15 (by decide) ?_
      exact hx_iret hx hb hr hlocks hP hS (Nat.le_refl _) (Nat.le_refl _) dL_cheapest_16 k1.symm (by rw [oV, if_neg (by omega)])
  refine lv_i2l hx hb dL_cheapest_8 rfl ?_
  refine va_last hx hb hG.1 hP hD hS 0 3 rfl rfl (bd_of (by decide) (by decide)) dL_cheapest_9 (fun H locs hP hD hS => ?_)
  refine lv_goto (tgt := 17) hx hb dL_cheapest_10 (by decide) ?_
  refine lv_iconst (v := (0 : Int32)) hx hb dL_cheapest_17 (by decide) ?_
  refine hx_iret hx hb hr hlocks hP hS (Nat.le_refl _) (Nat.le_refl _) dL_cheapest_18 ?_ (by rw [oV, if_pos h0]; rfl)
  rcases hk with ⟨k0, k1⟩ | ⟨k0, k1⟩
  · exact k1.symm
  · exact absurd k0 (by omega)
set_option maxRecDepth 20000 in
theorem c_L_runScript (l : Launch) (hl0 : l.stackTraces = false) (D : va_G) (cy : Nat → ClassId) (t : FxA) (xa sa sb tr na : Nat → Nat) (ka : Nat → Nat → Nat) (oa : Nat) (f : Nat → Int64) {T : Int} {z : SpT} {mo : MoT} (H : PR T z mo) (x1 : Int32) (x2 : Int64) {k : Int32} (hk : ((m_X8_runScript z x1 x2).1 = 0 ∧ k = 0) ∨ ∃ e ∈ ec, (m_X8_runScript z x1 x2).1 = e.1 ∧ k = e.2) : HX l D cy t yL_runScript wsL_runScript (wO cy oa f (wSp cy xa sa sb tr na ka z)) (wO cy oa (oV f (m_X8_runScript z x1 x2).1 (m_X8_runScript z x1 x2).2.1) (wSp cy xa sa sb tr na ka (m_X8_runScript z x1 x2).2.2)) [.ref (xa 0), .int x1, .long x2, .ref oa] k := by
  refine HX.body (hh := [(0, 11, 14, 13)]) (by decide) rfl (Nat.le_of_ble_eq_true rfl) ?_
  intro p e s m below meth c hx hb hml htb hr hts hown hlocks hP hG ls hl A hD hA hS hF
  have hl : lv_has ls 6 [(0, .ref (xa 0)), (1, .int x1), (2, .long x2), (4, .ref oa)] := hl
  have hCF : CallFix p m c cL_runScript 6 s ([.ref (xa 0), .int x1, .long x2, .ref oa] : List Value).toArray wsL_runScript RL := ⟨hx, hb, hml, hown, hts⟩
  have hk := in_ec hk
  refine lv_aload hx hb dL_runScript_0 (lv_at hl 3 rfl) ?_
  refine lv_iconst (v := (0 : Int32)) hx hb dL_runScript_2 (by decide) ?_
  refine lv_aload_n hx hb dL_runScript_3 rfl (lv_at hl 0 rfl) ?_
  refine lv_iload_n hx hb dL_runScript_4 rfl (lv_at hl 1 rfl) ?_
  refine lv_lload_n hx hb dL_runScript_5 rfl (lv_at hl 2 rfl) ?_
  refine exV (ci := 6) (A0 := A) (As := [.int x1, .long x2]) (rest := [.int (0 : Int32), .ref oa]) (W1 := (wO cy oa f (wSp cy xa sa sb tr na ka z))) (W2 := wO cy oa f (wSp cy xa sa sb tr na ka (m_X8_runScript z x1 x2).2.2)) ((c_X8_runScript l hl0 D cy t xa sa sb tr na ka z x1 x2 H.st).out oa f) hCF gL_runScript_X8_runScript rfl hq_X8_runScript ⟨rfl, rfl, Nat.le_of_ble_eq_true rfl, Nat.le_of_ble_eq_true rfl⟩ hG hF hP hD hS hA (congrArg (List.cons oa) h_Sp) rfl rfl (List.mem_cons_of_mem _ (List.mem_of_getElem? g_Sp_0)) rfl hl.1 rfl (Nat.le_of_ble_eq_true rfl) dL_runScript_6 ⟨Nat.le_of_ble_eq_true rfl, Nat.le_of_ble_eq_true rfl⟩ (fun h0 ce q9 H locs hP hD hS h1 h2 h3 => ?_) (fun h0 H locs hP hD hS => ?_)
  · rcases hk with ⟨k0, k1⟩ | ⟨k0, k1⟩
    · exact absurd k0 (by omega)
    · rw [k0] at h3
      refine hx_catch (i := 2) hown hF (tableOf []) ⟨0, 11, 14, 13⟩ (tableOf []) (htb.trans rfl) (fun z9 hz => absurd hz List.not_mem_nil) (by decide) (by decide) (hts (Cond.classLink RL 13 (exN 2)) (List.mem_of_getElem? (i := 1) rfl)) h1 h2 h3 ?_
      refine lv_astore (lv' := [(5, .ref q9), (0, .ref (xa 0)), (1, .int x1), (2, .long x2), (4, .ref oa)]) hx hb dL_runScript_14 hl (by decide) rfl (fun ls hl => ?_)
      refine lv_iconst (v := (1 : Int32)) hx hb dL_runScript_16 (by decide) ?_
      exact hx_iret hx hb hr hlocks hP hS (Nat.le_refl _) (Nat.le_refl _) dL_runScript_17 k1.symm (by rw [oV, if_neg (by omega)])
  refine lv_i2l hx hb dL_runScript_9 rfl ?_
  refine va_last hx hb hG.1 hP hD hS 0 3 rfl rfl (bd_of (by decide) (by decide)) dL_runScript_10 (fun H locs hP hD hS => ?_)
  refine lv_goto (tgt := 18) hx hb dL_runScript_11 (by decide) ?_
  refine lv_iconst (v := (0 : Int32)) hx hb dL_runScript_18 (by decide) ?_
  refine hx_iret hx hb hr hlocks hP hS (Nat.le_refl _) (Nat.le_refl _) dL_runScript_19 ?_ (by rw [oV, if_pos h0]; rfl)
  rcases hk with ⟨k0, k1⟩ | ⟨k0, k1⟩
  · exact k1.symm
  · exact absurd k0 (by omega)
set_option maxRecDepth 20000 in
theorem c_L_simulate (l : Launch) (hl0 : l.stackTraces = false) (D : va_G) (cy : Nat → ClassId) (t : FxA) (xa sa sb tr na : Nat → Nat) (ka : Nat → Nat → Nat) (oa : Nat) (f : Nat → Int64) {T : Int} {z : SpT} {mo : MoT} (H : PR T z mo) (x1 : Int64) (x2 : Int32) {k : Int32} (hk : ((m_X8_simulate z x1 x2).1 = 0 ∧ k = 0) ∨ ∃ e ∈ ec, (m_X8_simulate z x1 x2).1 = e.1 ∧ k = e.2) : HX l D cy t yL_simulate wsL_simulate (wO cy oa f (wSp cy xa sa sb tr na ka z)) (wO cy oa (oV f (m_X8_simulate z x1 x2).1 (m_X8_simulate z x1 x2).2.1) (wSp cy xa sa sb tr na ka (m_X8_simulate z x1 x2).2.2)) [.ref (xa 0), .long x1, .int x2, .ref oa] k := by
  refine HX.body (hh := [(0, 11, 14, 13)]) (by decide) rfl (Nat.le_of_ble_eq_true rfl) ?_
  intro p e s m below meth c hx hb hml htb hr hts hown hlocks hP hG ls hl A hD hA hS hF
  have hl : lv_has ls 6 [(0, .ref (xa 0)), (1, .long x1), (3, .int x2), (4, .ref oa)] := hl
  have hCF : CallFix p m c cL_simulate 6 s ([.ref (xa 0), .long x1, .int x2, .ref oa] : List Value).toArray wsL_simulate RL := ⟨hx, hb, hml, hown, hts⟩
  have hk := in_ec hk
  refine lv_aload hx hb dL_simulate_0 (lv_at hl 3 rfl) ?_
  refine lv_iconst (v := (0 : Int32)) hx hb dL_simulate_2 (by decide) ?_
  refine lv_aload_n hx hb dL_simulate_3 rfl (lv_at hl 0 rfl) ?_
  refine lv_lload_n hx hb dL_simulate_4 rfl (lv_at hl 1 rfl) ?_
  refine lv_iload_n hx hb dL_simulate_5 rfl (lv_at hl 2 rfl) ?_
  refine exV (ci := 6) (A0 := A) (As := [.long x1, .int x2]) (rest := [.int (0 : Int32), .ref oa]) (W1 := (wO cy oa f (wSp cy xa sa sb tr na ka z))) (W2 := wO cy oa f (wSp cy xa sa sb tr na ka (m_X8_simulate z x1 x2).2.2)) ((c_X8_simulate l hl0 D cy t xa sa sb tr na ka z x1 x2 H.st).out oa f) hCF gL_simulate_X8_simulate rfl hq_X8_simulate ⟨rfl, rfl, Nat.le_of_ble_eq_true rfl, Nat.le_of_ble_eq_true rfl⟩ hG hF hP hD hS hA (congrArg (List.cons oa) h_Sp) rfl rfl (List.mem_cons_of_mem _ (List.mem_of_getElem? g_Sp_0)) rfl hl.1 rfl (Nat.le_of_ble_eq_true rfl) dL_simulate_6 ⟨Nat.le_of_ble_eq_true rfl, Nat.le_of_ble_eq_true rfl⟩ (fun h0 ce q9 H locs hP hD hS h1 h2 h3 => ?_) (fun h0 H locs hP hD hS => ?_)
  · rcases hk with ⟨k0, k1⟩ | ⟨k0, k1⟩
    · exact absurd k0 (by omega)
    · rw [k0] at h3
      refine hx_catch (i := 2) hown hF (tableOf []) ⟨0, 11, 14, 13⟩ (tableOf []) (htb.trans rfl) (fun z9 hz => absurd hz List.not_mem_nil) (by decide) (by decide) (hts (Cond.classLink RL 13 (exN 2)) (List.mem_of_getElem? (i := 1) rfl)) h1 h2 h3 ?_
      refine lv_astore (lv' := [(5, .ref q9), (0, .ref (xa 0)), (1, .long x1), (3, .int x2), (4, .ref oa)]) hx hb dL_simulate_14 hl (by decide) rfl (fun ls hl => ?_)
      refine lv_iconst (v := (1 : Int32)) hx hb dL_simulate_16 (by decide) ?_
      exact hx_iret hx hb hr hlocks hP hS (Nat.le_refl _) (Nat.le_refl _) dL_simulate_17 k1.symm (by rw [oV, if_neg (by omega)])
  refine lv_i2l hx hb dL_simulate_9 rfl ?_
  refine va_last hx hb hG.1 hP hD hS 0 3 rfl rfl (bd_of (by decide) (by decide)) dL_simulate_10 (fun H locs hP hD hS => ?_)
  refine lv_goto (tgt := 18) hx hb dL_simulate_11 (by decide) ?_
  refine lv_iconst (v := (0 : Int32)) hx hb dL_simulate_18 (by decide) ?_
  refine hx_iret hx hb hr hlocks hP hS (Nat.le_refl _) (Nat.le_refl _) dL_simulate_19 ?_ (by rw [oV, if_pos h0]; rfl)
  rcases hk with ⟨k0, k1⟩ | ⟨k0, k1⟩
  · exact k1.symm
  · exact absurd k0 (by omega)
set_option maxRecDepth 20000 in
theorem c_L_save (l : Launch) (hl0 : l.stackTraces = false) (D : va_G) (cy : Nat → ClassId) (t : FxA) (xa sa sb tr na : Nat → Nat) (ka : Nat → Nat → Nat) (oa : Nat) (f : Nat → Int64) {T : Int} {z : SpT} {mo : MoT} (H : PR T z mo) (x1 : Int32) {k : Int32} (hk : ((m_X8_save z x1).1 = 0 ∧ k = 0) ∨ ∃ e ∈ ee, (m_X8_save z x1).1 = e.1 ∧ k = e.2) : HX l D cy t yL_save wsL_save (wO cy oa f (wSp cy xa sa sb tr na ka z)) (wO cy oa (oV f (m_X8_save z x1).1 (m_X8_save z x1).2.1) (wSp cy xa sa sb tr na ka (m_X8_save z x1).2.2)) [.ref (xa 0), .int x1, .ref oa] k := by
  refine HX.body (hh := [(0, 9, 12, 28)]) (by decide) rfl (Nat.le_of_ble_eq_true rfl) ?_
  intro p e s m below meth c hx hb hml htb hr hts hown hlocks hP hG ls hl A hD hA hS hF
  have hl : lv_has ls 4 [(0, .ref (xa 0)), (1, .int x1), (2, .ref oa)] := hl
  have hCF : CallFix p m c cL_save 4 s ([.ref (xa 0), .int x1, .ref oa] : List Value).toArray wsL_save RL := ⟨hx, hb, hml, hown, hts⟩
  have hk := in_ee hk
  refine lv_aload_n hx hb dL_save_0 rfl (lv_at hl 2 rfl) ?_
  refine lv_iconst (v := (0 : Int32)) hx hb dL_save_1 (by decide) ?_
  refine lv_aload_n hx hb dL_save_2 rfl (lv_at hl 0 rfl) ?_
  refine lv_iload_n hx hb dL_save_3 rfl (lv_at hl 1 rfl) ?_
  refine exV (ci := 6) (A0 := A) (As := [.int x1]) (rest := [.int (0 : Int32), .ref oa]) (W1 := (wO cy oa f (wSp cy xa sa sb tr na ka z))) (W2 := wO cy oa f (wSp cy xa sa sb tr na ka (m_X8_save z x1).2.2)) ((c_X8_save l hl0 D cy t xa sa sb tr na ka z x1).out oa f) hCF gL_save_X8_save rfl hq_X8_save ⟨rfl, rfl, Nat.le_of_ble_eq_true rfl, Nat.le_of_ble_eq_true rfl⟩ hG hF hP hD hS hA (congrArg (List.cons oa) h_Sp) rfl rfl (List.mem_cons_of_mem _ (List.mem_of_getElem? g_Sp_0)) rfl hl.1 rfl (Nat.le_of_ble_eq_true rfl) dL_save_4 ⟨Nat.le_of_ble_eq_true rfl, Nat.le_of_ble_eq_true rfl⟩ (fun h0 ce q9 H locs hP hD hS h1 h2 h3 => ?_) (fun h0 H locs hP hD hS => ?_)
  · rcases hk with ⟨k0, k1⟩ | ⟨k0, k1⟩
    · exact absurd k0 (by omega)
    · rw [k0] at h3
      refine hx_catch (i := 1) hown hF (tableOf []) ⟨0, 9, 12, 28⟩ (tableOf []) (htb.trans rfl) (fun z9 hz => absurd hz List.not_mem_nil) (by decide) (by decide) (hts (Cond.classLink RL 28 (exN 1)) (List.mem_of_getElem? (i := 1) rfl)) h1 h2 h3 ?_
      refine lv_astore_n (lv' := [(3, .ref q9), (0, .ref (xa 0)), (1, .int x1), (2, .ref oa)]) hx hb dL_save_12 rfl hl (by decide) rfl (fun ls hl => ?_)
      refine lv_iconst (v := (1 : Int32)) hx hb dL_save_13 (by decide) ?_
      exact hx_iret hx hb hr hlocks hP hS (Nat.le_refl _) (Nat.le_refl _) dL_save_14 k1.symm (by rw [oV, if_neg (by omega)])
  refine lv_i2l hx hb dL_save_7 rfl ?_
  refine va_last hx hb hG.1 hP hD hS 0 3 rfl rfl (bd_of (by decide) (by decide)) dL_save_8 (fun H locs hP hD hS => ?_)
  refine lv_goto (tgt := 15) hx hb dL_save_9 (by decide) ?_
  refine lv_iconst (v := (0 : Int32)) hx hb dL_save_15 (by decide) ?_
  refine hx_iret hx hb hr hlocks hP hS (Nat.le_refl _) (Nat.le_refl _) dL_save_16 ?_ (by rw [oV, if_pos h0]; rfl)
  rcases hk with ⟨k0, k1⟩ | ⟨k0, k1⟩
  · exact k1.symm
  · exact absurd k0 (by omega)
set_option maxRecDepth 20000 in
theorem c_L_restore (l : Launch) (hl0 : l.stackTraces = false) (D : va_G) (cy : Nat → ClassId) (t : FxA) (xa sa sb tr na : Nat → Nat) (ka : Nat → Nat → Nat) (oa : Nat) (f : Nat → Int64) {T : Int} {z : SpT} {mo : MoT} (H : PR T z mo) (x1 : Int32) {k : Int32} (hk : ((m_X8_restore z x1).1 = 0 ∧ k = 0) ∨ ∃ e ∈ eb, (m_X8_restore z x1).1 = e.1 ∧ k = e.2) : HX l D cy t yL_restore wsL_restore (wO cy oa f (wSp cy xa sa sb tr na ka z)) (wO cy oa (oV f (m_X8_restore z x1).1 (m_X8_restore z x1).2.1) (wSp cy xa sa sb tr na ka (m_X8_restore z x1).2.2)) [.ref (xa 0), .int x1, .ref oa] k := by
  refine HX.body (hh := [(0, 9, 12, 28), (0, 9, 15, 15)]) (by decide) rfl (Nat.le_of_ble_eq_true rfl) ?_
  intro p e s m below meth c hx hb hml htb hr hts hown hlocks hP hG ls hl A hD hA hS hF
  have hl : lv_has ls 4 [(0, .ref (xa 0)), (1, .int x1), (2, .ref oa)] := hl
  have hCF : CallFix p m c cL_restore 4 s ([.ref (xa 0), .int x1, .ref oa] : List Value).toArray wsL_restore RL := ⟨hx, hb, hml, hown, hts⟩
  have hk := in_eb hk
  refine lv_aload_n hx hb dL_restore_0 rfl (lv_at hl 2 rfl) ?_
  refine lv_iconst (v := (0 : Int32)) hx hb dL_restore_1 (by decide) ?_
  refine lv_aload_n hx hb dL_restore_2 rfl (lv_at hl 0 rfl) ?_
  refine lv_iload_n hx hb dL_restore_3 rfl (lv_at hl 1 rfl) ?_
  refine exV (ci := 6) (A0 := A) (As := [.int x1]) (rest := [.int (0 : Int32), .ref oa]) (W1 := (wO cy oa f (wSp cy xa sa sb tr na ka z))) (W2 := wO cy oa f (wSp cy xa sa sb tr na ka (m_X8_restore z x1).2.2)) ((c_X8_restore l hl0 D cy t xa sa sb tr na ka z x1).out oa f) hCF gL_restore_X8_restore rfl hq_X8_restore ⟨rfl, rfl, Nat.le_of_ble_eq_true rfl, Nat.le_of_ble_eq_true rfl⟩ hG hF hP hD hS hA (congrArg (List.cons oa) h_Sp) rfl rfl (List.mem_cons_of_mem _ (List.mem_of_getElem? g_Sp_0)) rfl hl.1 rfl (Nat.le_of_ble_eq_true rfl) dL_restore_4 ⟨Nat.le_of_ble_eq_true rfl, Nat.le_of_ble_eq_true rfl⟩ (fun h0 ce q9 H locs hP hD hS h1 h2 h3 => ?_) (fun h0 H locs hP hD hS => ?_)
  · rcases hk with ⟨k0, k1⟩ | ⟨k0, k1⟩ | ⟨k0, k1⟩
    · exact absurd k0 (by omega)
    · rw [k0] at h3
      refine hx_catch (i := 1) hown hF (tableOf []) ⟨0, 9, 12, 28⟩ (tableOf [(0, 9, 15, 15)]) (htb.trans rfl) (fun z9 hz => absurd hz List.not_mem_nil) (by decide) (by decide) (hts (Cond.classLink RL 28 (exN 1)) (List.mem_of_getElem? (i := 1) rfl)) h1 h2 h3 ?_
      refine lv_astore_n (lv' := [(3, .ref q9), (0, .ref (xa 0)), (1, .int x1), (2, .ref oa)]) hx hb dL_restore_12 rfl hl (by decide) rfl (fun ls hl => ?_)
      refine lv_iconst (v := (1 : Int32)) hx hb dL_restore_13 (by decide) ?_
      exact hx_iret hx hb hr hlocks hP hS (Nat.le_refl _) (Nat.le_refl _) dL_restore_14 k1.symm (by rw [oV, if_neg (by omega)])
    · rw [k0] at h3
      refine hx_catch (i := 3) hown hF (tableOf [(0, 9, 12, 28)]) ⟨0, 9, 15, 15⟩ (tableOf []) (htb.trans rfl) (fun z9 hz => by
        simp only [tableOf, List.map, List.mem_cons, List.not_mem_nil, or_false] at hz
        rcases hz with rfl
        · exact ⟨by decide, 1, hts (Cond.classLink RL 28 (exN 1)) (List.mem_of_getElem? (i := 1) rfl), by decide⟩) (by decide) (by decide) (hts (Cond.classLink RL 15 (exN 3)) (List.mem_of_getElem? (i := 2) rfl)) h1 h2 h3 ?_
      refine lv_astore_n (lv' := [(3, .ref q9), (0, .ref (xa 0)), (1, .int x1), (2, .ref oa)]) hx hb dL_restore_15 rfl hl (by decide) rfl (fun ls hl => ?_)
      refine lv_iconst (v := (2 : Int32)) hx hb dL_restore_16 (by decide) ?_
      exact hx_iret hx hb hr hlocks hP hS (Nat.le_refl _) (Nat.le_refl _) dL_restore_17 k1.symm (by rw [oV, if_neg (by omega)])
  refine lv_i2l hx hb dL_restore_7 rfl ?_
  refine va_last hx hb hG.1 hP hD hS 0 3 rfl rfl (bd_of (by decide) (by decide)) dL_restore_8 (fun H locs hP hD hS => ?_)
  refine lv_goto (tgt := 18) hx hb dL_restore_9 (by decide) ?_
  refine lv_iconst (v := (0 : Int32)) hx hb dL_restore_18 (by decide) ?_
  refine hx_iret hx hb hr hlocks hP hS (Nat.le_refl _) (Nat.le_refl _) dL_restore_19 ?_ (by rw [oV, if_pos h0]; rfl)
  rcases hk with ⟨k0, k1⟩ | ⟨k0, k1⟩ | ⟨k0, k1⟩
  · exact k1.symm
  · exact absurd k0 (by omega)
  · exact absurd k0 (by omega)
