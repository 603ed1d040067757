/-! helpers of the law -/
set_option maxRecDepth 20000 in
theorem c_L_load (l : Launch) (hl0 : l.stackTraces = false) (D : va_G) (cy : Nat → ClassId) (t : FxA) (xa sa sb tr na : Nat → Nat) (ka : Nat → Nat → Nat) (oa : Nat) (f : Nat → Int64) {T : Int} {z : SpT} {mo : MoT} (H : PR T z mo) {k : Int32} (hk : ((m_X8_load z).1 = 0 ∧ k = 0) ∨ ∃ e ∈ ef, (m_X8_load z).1 = e.1 ∧ k = e.2) : HX l D cy t yL_load wsL_load (wO cy oa f (wSp cy xa sa sb tr na ka z)) (wO cy oa (oV f (m_X8_load z).1 (m_X8_load z).2.1) (wSp cy xa sa sb tr na ka (m_X8_load z).2.2)) [.ref (xa 0), .ref oa] k := by
  refine HX.body (hh := [(0, 8, 11, 15)]) (by decide) rfl (Nat.le_of_ble_eq_true rfl) ?_
  intro p e s m below meth c hx hb hml htb hr hts hown hlocks hP hG ls hl A hD hA hS hF
  have hl : lv_has ls 3 [(0, .ref (xa 0)), (1, .ref oa)] := hl
  have hCF : CallFix p m c cL_load 3 s ([.ref (xa 0), .ref oa] : List Value).toArray wsL_load RL := ⟨hx, hb, hml, hown, hts⟩
  have hk := in_ef hk
  refine lv_aload_n hx hb dL_load_0 rfl (lv_at hl 1 rfl) ?_
  refine lv_iconst (v := (0 : Int32)) hx hb dL_load_1 (by decide) ?_
  refine lv_aload_n hx hb dL_load_2 rfl (lv_at hl 0 rfl) ?_
  refine exV (ci := 6) (A0 := A) (As := []) (rest := [.int (0 : Int32), .ref oa]) (W1 := (wO cy oa f (wSp cy xa sa sb tr na ka z))) (W2 := wO cy oa f (wSp cy xa sa sb tr na ka (m_X8_load z).2.2)) ((c_X8_load l hl0 D cy t xa sa sb tr na ka z H.tl H.st).out oa f) hCF gL_load_X8_load rfl hq_X8_load ⟨rfl, rfl, Nat.le_of_ble_eq_true rfl, Nat.le_of_ble_eq_true rfl⟩ hG hF hP hD hS hA (congrArg (List.cons oa) h_Sp) rfl rfl (List.mem_cons_of_mem _ (List.mem_of_getElem? g_Sp_0)) rfl hl.1 rfl (Nat.le_of_ble_eq_true rfl) dL_load_3 ⟨Nat.le_of_ble_eq_true rfl, Nat.le_of_ble_eq_true rfl⟩ (fun h0 ce q9 H locs hP hD hS h1 h2 h3 => ?_) (fun h0 H locs hP hD hS => ?_)
  · rcases hk with ⟨k0, k1⟩ | ⟨k0, k1⟩
    · exact absurd k0 (by omega)
    · rw [k0] at h3
      refine hx_catch (i := 3) hown hF (tableOf []) ⟨0, 8, 11, 15⟩ (tableOf []) (htb.trans rfl) (fun z9 hz => absurd hz List.not_mem_nil) (by decide) (by decide) (hts (Cond.classLink RL 15 (exN 3)) (List.mem_of_getElem? (i := 1) rfl)) h1 h2 h3 ?_
      refine lv_astore_n (lv' := [(2, .ref q9), (0, .ref (xa 0)), (1, .ref oa)]) hx hb dL_load_11 rfl hl (by decide) rfl (fun ls hl => ?_)
      refine lv_iconst (v := (1 : Int32)) hx hb dL_load_12 (by decide) ?_
      exact hx_iret hx hb hr hlocks hP hS (Nat.le_refl _) (Nat.le_refl _) dL_load_13 k1.symm (by rw [oV, if_neg (by omega)])
  refine lv_i2l hx hb dL_load_6 rfl ?_
  refine va_last hx hb hG.1 hP hD hS 0 3 rfl rfl (bd_of (by decide) (by decide)) dL_load_7 (fun H locs hP hD hS => ?_)
  refine lv_goto (tgt := 14) hx hb dL_load_8 (by decide) ?_
  refine lv_iconst (v := (0 : Int32)) hx hb dL_load_14 (by decide) ?_
  refine hx_iret hx hb hr hlocks hP hS (Nat.le_refl _) (Nat.le_refl _) dL_load_15 ?_ (by rw [oV, if_pos h0]; rfl)
  rcases hk with ⟨k0, k1⟩ | ⟨k0, k1⟩
  · exact k1.symm
  · exact absurd k0 (by omega)
set_option maxRecDepth 20000 in
theorem c_L_about (l : Launch) (hl0 : l.stackTraces = false) (D : va_G) (cy : Nat → ClassId) (t : FxA) (xa sa sb tr na : Nat → Nat) (ka : Nat → Nat → Nat) (oa : Nat) (f : Nat → Int64) {T : Int} {z : SpT} {mo : MoT} (H : PR T z mo) (x1 : Int32) {k : Int32} (hk : ((m_X8_about z x1).1 = 0 ∧ k = 0) ∨ ∃ e ∈ ec, (m_X8_about z x1).1 = e.1 ∧ k = e.2) : HX l D cy t yL_about wsL_about (wO cy oa f (wSp cy xa sa sb tr na ka z)) (wO cy oa (oV f (m_X8_about z x1).1 (m_X8_about z x1).2.1) (wSp cy xa sa sb tr na ka (m_X8_about z x1).2.2)) [.ref (xa 0), .int x1, .ref oa] k := by
  refine HX.body (hh := [(0, 9, 12, 13)]) (by decide) rfl (Nat.le_of_ble_eq_true rfl) ?_
  intro p e s m below meth c hx hb hml htb hr hts hown hlocks hP hG ls hl A hD hA hS hF
  have hl : lv_has ls 4 [(0, .ref (xa 0)), (1, .int x1), (2, .ref oa)] := hl
  have hCF : CallFix p m c cL_about 4 s ([.ref (xa 0), .int x1, .ref oa] : List Value).toArray wsL_about RL := ⟨hx, hb, hml, hown, hts⟩
  have hk := in_ec hk
  refine lv_aload_n hx hb dL_about_0 rfl (lv_at hl 2 rfl) ?_
  refine lv_iconst (v := (0 : Int32)) hx hb dL_about_1 (by decide) ?_
  refine lv_aload_n hx hb dL_about_2 rfl (lv_at hl 0 rfl) ?_
  refine lv_iload_n hx hb dL_about_3 rfl (lv_at hl 1 rfl) ?_
  refine exV (ci := 6) (A0 := A) (As := [.int x1]) (rest := [.int (0 : Int32), .ref oa]) (W1 := (wO cy oa f (wSp cy xa sa sb tr na ka z))) (W2 := wO cy oa f (wSp cy xa sa sb tr na ka (m_X8_about z x1).2.2)) ((c_X8_about l hl0 D cy t xa sa sb tr na ka z x1 H.st).out oa f) hCF gL_about_X8_about rfl hq_X8_about ⟨rfl, rfl, Nat.le_of_ble_eq_true rfl, Nat.le_of_ble_eq_true rfl⟩ hG hF hP hD hS hA (congrArg (List.cons oa) h_Sp) rfl rfl (List.mem_cons_of_mem _ (List.mem_of_getElem? g_Sp_0)) rfl hl.1 rfl (Nat.le_of_ble_eq_true rfl) dL_about_4 ⟨Nat.le_of_ble_eq_true rfl, Nat.le_of_ble_eq_true rfl⟩ (fun h0 ce q9 H locs hP hD hS h1 h2 h3 => ?_) (fun h0 H locs hP hD hS => ?_)
  · rcases hk with ⟨k0, k1⟩ | ⟨k0, k1⟩
    · exact absurd k0 (by omega)
    · rw [k0] at h3
      refine hx_catch (i := 2) hown hF (tableOf []) ⟨0, 9, 12, 13⟩ (tableOf []) (htb.trans rfl) (fun z9 hz => absurd hz List.not_mem_nil) (by decide) (by decide) (hts (Cond.classLink RL 13 (exN 2)) (List.mem_of_getElem? (i := 1) rfl)) h1 h2 h3 ?_
      refine lv_astore_n (lv' := [(3, .ref q9), (0, .ref (xa 0)), (1, .int x1), (2, .ref oa)]) hx hb dL_about_12 rfl hl (by decide) rfl (fun ls hl => ?_)
      refine lv_iconst (v := (1 : Int32)) hx hb dL_about_13 (by decide) ?_
      exact hx_iret hx hb hr hlocks hP hS (Nat.le_refl _) (Nat.le_refl _) dL_about_14 k1.symm (by rw [oV, if_neg (by omega)])
  refine lv_i2l hx hb dL_about_7 rfl ?_
  refine va_last hx hb hG.1 hP hD hS 0 3 rfl rfl (bd_of (by decide) (by decide)) dL_about_8 (fun H locs hP hD hS => ?_)
  refine lv_goto (tgt := 15) hx hb dL_about_9 (by decide) ?_
  refine lv_iconst (v := (0 : Int32)) hx hb dL_about_15 (by decide) ?_
  refine hx_iret hx hb hr hlocks hP hS (Nat.le_refl _) (Nat.le_refl _) dL_about_16 ?_ (by rw [oV, if_pos h0]; rfl)
  rcases hk with ⟨k0, k1⟩ | ⟨k0, k1⟩
  · exact k1.symm
  · exact absurd k0 (by omega)
set_option maxRecDepth 20000 in
theorem c_L_unit (l : Launch) (hl0 : l.stackTraces = false) (D : va_G) (cy : Nat → ClassId) (t : FxA) (xa sa sb tr na : Nat → Nat) (ka : Nat → Nat → Nat) (oa : Nat) (f : Nat → Int64) {T : Int} {z : SpT} {mo : MoT} (H : PR T z mo) (x1 : Int32) (x2 : Int32) {k : Int32} (hk : ((m_X8_unit z x1 x2).1 = 0 ∧ k = 0) ∨ ∃ e ∈ ed, (m_X8_unit z x1 x2).1 = e.1 ∧ k = e.2) : HX l D cy t yL_unit wsL_unit (wO cy oa f (wSp cy xa sa sb tr na ka z)) (wO cy oa (oV f (m_X8_unit z x1 x2).1 (m_X8_unit z x1 x2).2.1) (wSp cy xa sa sb tr na ka (m_X8_unit z x1 x2).2.2)) [.ref (xa 0), .int x1, .int x2, .ref oa] k := by
  refine HX.body (hh := [(0, 10, 13, 28), (0, 10, 17, 13)]) (by decide) rfl (Nat.le_of_ble_eq_true rfl) ?_
  intro p e s m below meth c hx hb hml htb hr hts hown hlocks hP hG ls hl A hD hA hS hF
  have hl : lv_has ls 5 [(0, .ref (xa 0)), (1, .int x1), (2, .int x2), (3, .ref oa)] := hl
  have hCF : CallFix p m c cL_unit 5 s ([.ref (xa 0), .int x1, .int x2, .ref oa] : List Value).toArray wsL_unit RL := ⟨hx, hb, hml, hown, hts⟩
  have hk := in_ed hk
  refine lv_aload_n hx hb dL_unit_0 rfl (lv_at hl 3 rfl) ?_
  refine lv_iconst (v := (0 : Int32)) hx hb dL_unit_1 (by decide) ?_
  refine lv_aload_n hx hb dL_unit_2 rfl (lv_at hl 0 rfl) ?_
  refine lv_iload_n hx hb dL_unit_3 rfl (lv_at hl 1 rfl) ?_
  refine lv_iload_n hx hb dL_unit_4 rfl (lv_at hl 2 rfl) ?_
  refine exV (ci := 6) (A0 := A) (As := [.int x1, .int x2]) (rest := [.int (0 : Int32), .ref oa]) (W1 := (wO cy oa f (wSp cy xa sa sb tr na ka z))) (W2 := wO cy oa f (wSp cy xa sa sb tr na ka (m_X8_unit z x1 x2).2.2)) ((c_X8_unit l hl0 D cy t xa sa sb tr na ka z x1 x2 H.st).out oa f) hCF gL_unit_X8_unit rfl hq_X8_unit ⟨rfl, rfl, Nat.le_of_ble_eq_true rfl, Nat.le_of_ble_eq_true rfl⟩ hG hF hP hD hS hA (congrArg (List.cons oa) h_Sp) rfl rfl (List.mem_cons_of_mem _ (List.mem_of_getElem? g_Sp_0)) rfl hl.1 rfl (Nat.le_of_ble_eq_true rfl) dL_unit_5 ⟨Nat.le_of_ble_eq_true rfl, Nat.le_of_ble_eq_true rfl⟩ (fun h0 ce q9 H locs hP hD hS h1 h2 h3 => ?_) (fun h0 H locs hP hD hS => ?_)
  · rcases hk with ⟨k0, k1⟩ | ⟨k0, k1⟩ | ⟨k0, k1⟩
    · exact absurd k0 (by omega)
    · rw [k0] at h3
      refine hx_catch (i := 1) hown hF (tableOf []) ⟨0, 10, 13, 28⟩ (tableOf [(0, 10, 17, 13)]) (htb.trans rfl) (fun z9 hz => absurd hz List.not_mem_nil) (by decide) (by decide) (hts (Cond.classLink RL 28 (exN 1)) (List.mem_of_getElem? (i := 1) rfl)) h1 h2 h3 ?_
      refine lv_astore (lv' := [(4, .ref q9), (0, .ref (xa 0)), (1, .int x1), (2, .int x2), (3, .ref oa)]) hx hb dL_unit_13 hl (by decide) rfl (fun ls hl => ?_)
      refine lv_iconst (v := (1 : Int32)) hx hb dL_unit_15 (by decide) ?_
      exact hx_iret hx hb hr hlocks hP hS (Nat.le_refl _) (Nat.le_refl _) dL_unit_16 k1.symm (by rw [oV, if_neg (by omega)])
    · rw [k0] at h3
      refine hx_catch (i := 2) hown hF (tableOf [(0, 10, 13, 28)]) ⟨0, 10, 17, 13⟩ (tableOf []) (htb.trans rfl) (fun z9 hz => by
        simp only [tableOf, List.map, List.mem_cons, List.not_mem_nil, or_false] at hz
        rcases hz with rfl
        · exact ⟨by decide, 1, hts (Cond.classLink RL 28 (exN 1)) (List.mem_of_getElem? (i := 1) rfl), by decide⟩) (by decide) (by decide) (hts (Cond.classLink RL 13 (exN 2)) (List.mem_of_getElem? (i := 2) rfl)) h1 h2 h3 ?_
      refine lv_astore (lv' := [(4, .ref q9), (0, .ref (xa 0)), (1, .int x1), (2, .int x2), (3, .ref oa)]) hx hb dL_unit_17 hl (by decide) rfl (fun ls hl => ?_)
      refine lv_iconst (v := (2 : Int32)) hx hb dL_unit_19 (by decide) ?_
      exact hx_iret hx hb hr hlocks hP hS (Nat.le_refl _) (Nat.le_refl _) dL_unit_20 k1.symm (by rw [oV, if_neg (by omega)])
  refine lv_i2l hx hb dL_unit_8 rfl ?_
  refine va_last hx hb hG.1 hP hD hS 0 3 rfl rfl (bd_of (by decide) (by decide)) dL_unit_9 (fun H locs hP hD hS => ?_)
  refine lv_goto (tgt := 21) hx hb dL_unit_10 (by decide) ?_
  refine lv_iconst (v := (0 : Int32)) hx hb dL_unit_21 (by decide) ?_
  refine hx_iret hx hb hr hlocks hP hS (Nat.le_refl _) (Nat.le_refl _) dL_unit_22 ?_ (by rw [oV, if_pos h0]; rfl)
  rcases hk with ⟨k0, k1⟩ | ⟨k0, k1⟩ | ⟨k0, k1⟩
  · exact k1.symm
  · exact absurd k0 (by omega)
  · exact absurd k0 (by omega)
set_option maxRecDepth 20000 in
theorem c_L_holder (l : Launch) (hl0 : l.stackTraces = false) (D : va_G) (cy : Nat → ClassId) (t : FxA) (xa sa sb tr na : Nat → Nat) (ka : Nat → Nat → Nat) (oa : Nat) (f : Nat → Int64) {T : Int} {z : SpT} {mo : MoT} (H : PR T z mo) (x1 : Int32) (x2 : Int32) {k : Int32} (hk : ((m_X8_holder z x1 x2).1 = 0 ∧ k = 0) ∨ ∃ e ∈ ed, (m_X8_holder z x1 x2).1 = e.1 ∧ k = e.2) : HX l D cy t yL_holder wsL_holder (wO cy oa f (wSp cy xa sa sb tr na ka z)) (wO cy oa (oV f (m_X8_holder z x1 x2).1 (m_X8_holder z x1 x2).2.1) (wSp cy xa sa sb tr na ka (m_X8_holder z x1 x2).2.2)) [.ref (xa 0), .int x1, .int x2, .ref oa] k := by
  refine HX.body (hh := [(0, 10, 13, 28), (0, 10, 17, 13)]) (by decide) rfl (Nat.le_of_ble_eq_true rfl) ?_
  intro p e s m below meth c hx hb hml htb hr hts hown hlocks hP hG ls hl A hD hA hS hF
  have hl : lv_has ls 5 [(0, .ref (xa 0)), (1, .int x1), (2, .int x2), (3, .ref oa)] := hl
  have hCF : CallFix p m c cL_holder 5 s ([.ref (xa 0), .int x1, .int x2, .ref oa] : List Value).toArray wsL_holder RL := ⟨hx, hb, hml, hown, hts⟩
  have hk := in_ed hk
  refine lv_aload_n hx hb dL_holder_0 rfl (lv_at hl 3 rfl) ?_
  refine lv_iconst (v := (0 : Int32)) hx hb dL_holder_1 (by decide) ?_
  refine lv_aload_n hx hb dL_holder_2 rfl (lv_at hl 0 rfl) ?_
  refine lv_iload_n hx hb dL_holder_3 rfl (lv_at hl 1 rfl) ?_
  refine lv_iload_n hx hb dL_holder_4 rfl (lv_at hl 2 rfl) ?_
  refine exV (ci := 6) (A0 := A) (As := [.int x1, .int x2]) (rest := [.int (0 : Int32), .ref oa]) (W1 := (wO cy oa f (wSp cy xa sa sb tr na ka z))) (W2 := wO cy oa f (wSp cy xa sa sb tr na ka (m_X8_holder z x1 x2).2.2)) ((c_X8_holder l hl0 D cy t xa sa sb tr na ka z x1 x2 H.st).out oa f) hCF gL_holder_X8_holder rfl hq_X8_holder ⟨rfl, rfl, Nat.le_of_ble_eq_true rfl, Nat.le_of_ble_eq_true rfl⟩ hG hF hP hD hS hA (congrArg (List.cons oa) h_Sp) rfl rfl (List.mem_cons_of_mem _ (List.mem_of_getElem? g_Sp_0)) rfl hl.1 rfl (Nat.le_of_ble_eq_true rfl) dL_holder_5 ⟨Nat.le_of_ble_eq_true rfl, Nat.le_of_ble_eq_true rfl⟩ (fun h0 ce q9 H locs hP hD hS h1 h2 h3 => ?_) (fun h0 H locs hP hD hS => ?_)
  · rcases hk with ⟨k0, k1⟩ | ⟨k0, k1⟩ | ⟨k0, k1⟩
    · exact absurd k0 (by omega)
    · rw [k0] at h3
      refine hx_catch (i := 1) hown hF (tableOf []) ⟨0, 10, 13, 28⟩ (tableOf [(0, 10, 17, 13)]) (htb.trans rfl) (fun z9 hz => absurd hz List.not_mem_nil) (by decide) (by decide) (hts (Cond.classLink RL 28 (exN 1)) (List.mem_of_getElem? (i := 1) rfl)) h1 h2 h3 ?_
      refine lv_astore (lv' := [(4, .ref q9), (0, .ref (xa 0)), (1, .int x1), (2, .int x2), (3, .ref oa)]) hx hb dL_holder_13 hl (by decide) rfl (fun ls hl => ?_)
      refine lv_iconst (v := (1 : Int32)) hx hb dL_holder_15 (by decide) ?_
      exact hx_iret hx hb hr hlocks hP hS (Nat.le_refl _) (Nat.le_refl _) dL_holder_16 k1.symm (by rw [oV, if_neg (by omega)])
    · rw [k0] at h3
      refine hx_catch (i := 2) hown hF (tableOf [(0, 10, 13, 28)]) ⟨0, 10, 17, 13⟩ (tableOf []) (htb.trans rfl) (fun z9 hz => by
        simp only [tableOf, List.map, List.mem_cons, List.not_mem_nil, or_false] at hz
        rcases hz with rfl
        · exact ⟨by decide, 1, hts (Cond.classLink RL 28 (exN 1)) (List.mem_of_getElem? (i := 1) rfl), by decide⟩) (by decide) (by decide) (hts (Cond.classLink RL 13 (exN 2)) (List.mem_of_getElem? (i := 2) rfl)) h1 h2 h3 ?_
      refine lv_astore (lv' := [(4, .ref q9), (0, .ref (xa 0)), (1, .int x1), (2, .int x2), (3, .ref oa)]) hx hb dL_holder_17 hl (by decide) rfl (fun ls hl => ?_)
      refine lv_iconst (v := (2 : Int32)) hx hb dL_holder_19 (by decide) ?_
      exact hx_iret hx hb hr hlocks hP hS (Nat.le_refl _) (Nat.le_refl _) dL_holder_20 k1.symm (by rw [oV, if_neg (by omega)])
  refine lv_i2l hx hb dL_holder_8 rfl ?_
  refine va_last hx hb hG.1 hP hD hS 0 3 rfl rfl (bd_of (by decide) (by decide)) dL_holder_9 (fun H locs hP hD hS => ?_)
  refine lv_goto (tgt := 21) hx hb dL_holder_10 (by decide) ?_
  refine lv_iconst (v := (0 : Int32)) hx hb dL_holder_21 (by decide) ?_
  refine hx_iret hx hb hr hlocks hP hS (Nat.le_refl _) (Nat.le_refl _) dL_holder_22 ?_ (by rw [oV, if_pos h0]; rfl)
  rcases hk with ⟨k0, k1⟩ | ⟨k0, k1⟩ | ⟨k0, k1⟩
  · exact k1.symm
  · exact absurd k0 (by omega)
  · exact absurd k0 (by omega)
set_option maxRecDepth 20000 in
theorem c_L_owed (l : Launch) (hl0 : l.stackTraces = false) (D : va_G) (cy : Nat → ClassId) (t : FxA) (xa sa sb tr na : Nat → Nat) (ka : Nat → Nat → Nat) (oa : Nat) (f : Nat → Int64) {T : Int} {z : SpT} {mo : MoT} (H : PR T z mo) (x1 : Int32) (x2 : Int32) (x3 : Int32) (x4 : Int32) {k : Int32} (hk : ((m_X8_owed z x1 x2 x3 x4).1 = 0 ∧ k = 0) ∨ ∃ e ∈ ee, (m_X8_owed z x1 x2 x3 x4).1 = e.1 ∧ k = e.2) : HX l D cy t yL_owed wsL_owed (wO cy oa f (wSp cy xa sa sb tr na ka z)) (wO cy oa (oV f (m_X8_owed z x1 x2 x3 x4).1 (m_X8_owed z x1 x2 x3 x4).2.1) (wSp cy xa sa sb tr na ka (m_X8_owed z x1 x2 x3 x4).2.2)) [.ref (xa 0), .int x1, .int x2, .int x3, .int x4, .ref oa] k := by
  refine HX.body (hh := [(0, 14, 17, 28)]) (by decide) rfl (Nat.le_of_ble_eq_true rfl) ?_
  intro p e s m below meth c hx hb hml htb hr hts hown hlocks hP hG ls hl A hD hA hS hF
  have hl : lv_has ls 7 [(0, .ref (xa 0)), (1, .int x1), (2, .int x2), (3, .int x3), (4, .int x4), (5, .ref oa)] := hl
  have hCF : CallFix p m c cL_owed 7 s ([.ref (xa 0), .int x1, .int x2, .int x3, .int x4, .ref oa] : List Value).toArray wsL_owed RL := ⟨hx, hb, hml, hown, hts⟩
  have hk := in_ee hk
  refine lv_aload hx hb dL_owed_0 (lv_at hl 5 rfl) ?_
  refine lv_iconst (v := (0 : Int32)) hx hb dL_owed_2 (by decide) ?_
  refine lv_aload_n hx hb dL_owed_3 rfl (lv_at hl 0 rfl) ?_
  refine lv_iload_n hx hb dL_owed_4 rfl (lv_at hl 1 rfl) ?_
  refine lv_iload_n hx hb dL_owed_5 rfl (lv_at hl 2 rfl) ?_
  refine lv_iload_n hx hb dL_owed_6 rfl (lv_at hl 3 rfl) ?_
  refine lv_iload hx hb dL_owed_7 (lv_at hl 4 rfl) ?_
  refine exV (ci := 6) (A0 := A) (As := [.int x1, .int x2, .int x3, .int x4]) (rest := [.int (0 : Int32), .ref oa]) (W1 := (wO cy oa f (wSp cy xa sa sb tr na ka z))) (W2 := wO cy oa f (wSp cy xa sa sb tr na ka (m_X8_owed z x1 x2 x3 x4).2.2)) ((c_X8_owed l hl0 D cy t xa sa sb tr na ka z x1 x2 x3 x4 H.st).out oa f) hCF gL_owed_X8_owed rfl hq_X8_owed ⟨rfl, rfl, Nat.le_of_ble_eq_true rfl, Nat.le_of_ble_eq_true rfl⟩ hG hF hP hD hS hA (congrArg (List.cons oa) h_Sp) rfl rfl (List.mem_cons_of_mem _ (List.mem_of_getElem? g_Sp_0)) rfl hl.1 rfl (Nat.le_of_ble_eq_true rfl) dL_owed_9 ⟨Nat.le_of_ble_eq_true rfl, Nat.le_of_ble_eq_true rfl⟩ (fun h0 ce q9 H locs hP hD hS h1 h2 h3 => ?_) (fun h0 H locs hP hD hS => ?_)
  · rcases hk with ⟨k0, k1⟩ | ⟨k0, k1⟩
    · exact absurd k0 (by omega)
    · rw [k0] at h3
      refine hx_catch (i := 1) hown hF (tableOf []) ⟨0, 14, 17, 28⟩ (tableOf []) (htb.trans rfl) (fun z9 hz => absurd hz List.not_mem_nil) (by decide) (by decide) (hts (Cond.classLink RL 28 (exN 1)) (List.mem_of_getElem? (i := 1) rfl)) h1 h2 h3 ?_
      refine lv_astore (lv' := [(6, .ref q9), (0, .ref (xa 0)), (1, .int x1), (2, .int x2), (3, .int x3), (4, .int x4), (5, .ref oa)]) hx hb dL_owed_17 hl (by decide) rfl (fun ls hl => ?_)
      refine lv_iconst (v := (1 : Int32)) hx hb dL_owed_19 (by decide) ?_
      exact hx_iret hx hb hr hlocks hP hS (Nat.le_refl _) (Nat.le_refl _) dL_owed_20 k1.symm (by rw [oV, if_neg (by omega)])
  refine lv_i2l hx hb dL_owed_12 rfl ?_
  refine va_last hx hb hG.1 hP hD hS 0 3 rfl rfl (bd_of (by decide) (by decide)) dL_owed_13 (fun H locs hP hD hS => ?_)
  refine lv_goto (tgt := 21) hx hb dL_owed_14 (by decide) ?_
  refine lv_iconst (v := (0 : Int32)) hx hb dL_owed_21 (by decide) ?_
  refine hx_iret hx hb hr hlocks hP hS (Nat.le_refl _) (Nat.le_refl _) dL_owed_22 ?_ (by rw [oV, if_pos h0]; rfl)
  rcases hk with ⟨k0, k1⟩ | ⟨k0, k1⟩
  · exact k1.symm
  · exact absurd k0 (by omega)
set_option maxRecDepth 20000 in
theorem c_L_core (l : Launch) (hl0 : l.stackTraces = false) (D : va_G) (cy : Nat → ClassId) (t : FxA) (xa sa sb tr na : Nat → Nat) (ka : Nat → Nat → Nat) (oa : Nat) (f : Nat → Int64) {T : Int} {z : SpT} {mo : MoT} (H : PR T z mo) (x1 : Int32) (x2 : Int32) (x3 : Int32) {k : Int32} (hk : ((m_X8_core z x1 x2 x3).1 = 0 ∧ k = 0) ∨ ∃ e ∈ ed, (m_X8_core z x1 x2 x3).1 = e.1 ∧ k = e.2) : HX l D cy t yL_core wsL_core (wO cy oa f (wSp cy xa sa sb tr na ka z)) (wO cy oa (oV f (m_X8_core z x1 x2 x3).1 (m_X8_core z x1 x2 x3).2.1) (wSp cy xa sa sb tr na ka (m_X8_core z x1 x2 x3).2.2)) [.ref (xa 0), .int x1, .int x2, .int x3, .ref oa] k := by
  refine HX.body (hh := [(0, 12, 15, 28), (0, 12, 19, 13)]) (by decide) rfl (Nat.le_of_ble_eq_true rfl) ?_
  intro p e s m below meth c hx hb hml htb hr hts hown hlocks hP hG ls hl A hD hA hS hF
  have hl : lv_has ls 6 [(0, .ref (xa 0)), (1, .int x1), (2, .int x2), (3, .int x3), (4, .ref oa)] := hl
  have hCF : CallFix p m c cL_core 6 s ([.ref (xa 0), .int x1, .int x2, .int x3, .ref oa] : List Value).toArray wsL_core RL := ⟨hx, hb, hml, hown, hts⟩
  have hk := in_ed hk
  refine lv_aload hx hb dL_core_0 (lv_at hl 4 rfl) ?_
  refine lv_iconst (v := (0 : Int32)) hx hb dL_core_2 (by decide) ?_
  refine lv_aload_n hx hb dL_core_3 rfl (lv_at hl 0 rfl) ?_
  refine lv_iload_n hx hb dL_core_4 rfl (lv_at hl 1 rfl) ?_
  refine lv_iload_n hx hb dL_core_5 rfl (lv_at hl 2 rfl) ?_
  refine lv_iload_n hx hb dL_core_6 rfl (lv_at hl 3 rfl) ?_
  refine exV (ci := 6) (A0 := A) (As := [.int x1, .int x2, .int x3]) (rest := [.int (0 : Int32), .ref oa]) (W1 := (wO cy oa f (wSp cy xa sa sb tr na ka z))) (W2 := wO cy oa f (wSp cy xa sa sb tr na ka (m_X8_core z x1 x2 x3).2.2)) ((c_X8_core l hl0 D cy t xa sa sb tr na ka z x1 x2 x3 H.st).out oa f) hCF gL_core_X8_core rfl hq_X8_core ⟨rfl, rfl, Nat.le_of_ble_eq_true rfl, Nat.le_of_ble_eq_true rfl⟩ hG hF hP hD hS hA (congrArg (List.cons oa) h_Sp) rfl rfl (List.mem_cons_of_mem _ (List.mem_of_getElem? g_Sp_0)) rfl hl.1 rfl (Nat.le_of_ble_eq_true rfl) dL_core_7 ⟨Nat.le_of_ble_eq_true rfl, Nat.le_of_ble_eq_true rfl⟩ (fun h0 ce q9 H locs hP hD hS h1 h2 h3 => ?_) (fun h0 H locs hP hD hS => ?_)
  · rcases hk with ⟨k0, k1⟩ | ⟨k0, k1⟩ | ⟨k0, k1⟩
    · exact absurd k0 (by omega)
    · rw [k0] at h3
      refine hx_catch (i := 1) hown hF (tableOf []) ⟨0, 12, 15, 28⟩ (tableOf [(0, 12, 19, 13)]) (htb.trans rfl) (fun z9 hz => absurd hz List.not_mem_nil) (by decide) (by decide) (hts (Cond.classLink RL 28 (exN 1)) (List.mem_of_getElem? (i := 1) rfl)) h1 h2 h3 ?_
      refine lv_astore (lv' := [(5, .ref q9), (0, .ref (xa 0)), (1, .int x1), (2, .int x2), (3, .int x3), (4, .ref oa)]) hx hb dL_core_15 hl (by decide) rfl (fun ls hl => ?_)
      refine lv_iconst (v := (1 : Int32)) hx hb dL_core_17 (by decide) ?_
      exact hx_iret hx hb hr hlocks hP hS (Nat.le_refl _) (Nat.le_refl _) dL_core_18 k1.symm (by rw [oV, if_neg (by omega)])
    · rw [k0] at h3
      refine hx_catch (i := 2) hown hF (tableOf [(0, 12, 15, 28)]) ⟨0, 12, 19, 13⟩ (tableOf []) (htb.trans rfl) (fun z9 hz => by
        simp only [tableOf, List.map, List.mem_cons, List.not_mem_nil, or_false] at hz
        rcases hz with rfl
        · exact ⟨by decide, 1, hts (Cond.classLink RL 28 (exN 1)) (List.mem_of_getElem? (i := 1) rfl), by decide⟩) (by decide) (by decide) (hts (Cond.classLink RL 13 (exN 2)) (List.mem_of_getElem? (i := 2) rfl)) h1 h2 h3 ?_
      refine lv_astore (lv' := [(5, .ref q9), (0, .ref (xa 0)), (1, .int x1), (2, .int x2), (3, .int x3), (4, .ref oa)]) hx hb dL_core_19 hl (by decide) rfl (fun ls hl => ?_)
      refine lv_iconst (v := (2 : Int32)) hx hb dL_core_21 (by decide) ?_
      exact hx_iret hx hb hr hlocks hP hS (Nat.le_refl _) (Nat.le_refl _) dL_core_22 k1.symm (by rw [oV, if_neg (by omega)])
  refine lv_i2l hx hb dL_core_10 rfl ?_
  refine va_last hx hb hG.1 hP hD hS 0 3 rfl rfl (bd_of (by decide) (by decide)) dL_core_11 (fun H locs hP hD hS => ?_)
  refine lv_goto (tgt := 23) hx hb dL_core_12 (by decide) ?_
  refine lv_iconst (v := (0 : Int32)) hx hb dL_core_23 (by decide) ?_
  refine hx_iret hx hb hr hlocks hP hS (Nat.le_refl _) (Nat.le_refl _) dL_core_24 ?_ (by rw [oV, if_pos h0]; rfl)
  rcases hk with ⟨k0, k1⟩ | ⟨k0, k1⟩ | ⟨k0, k1⟩
  · exact k1.symm
  · exact absurd k0 (by omega)
  · exact absurd k0 (by omega)
set_option maxRecDepth 20000 in
theorem c_L_setting (l : Launch) (hl0 : l.stackTraces = false) (D : va_G) (cy : Nat → ClassId) (t : FxA) (xa sa sb tr na : Nat → Nat) (ka : Nat → Nat → Nat) (oa : Nat) (f : Nat → Int64) {T : Int} {z : SpT} {mo : MoT} (H : PR T z mo) (x1 : Int32) {k : Int32} (hk : ((m_X8_setting z x1).1 = 0 ∧ k = 0) ∨ ∃ e ∈ ec, (m_X8_setting z x1).1 = e.1 ∧ k = e.2) : HX l D cy t yL_setting wsL_setting (wO cy oa f (wSp cy xa sa sb tr na ka z)) (wO cy oa (oV f (m_X8_setting z x1).1 (m_X8_setting z x1).2.1) (wSp cy xa sa sb tr na ka (m_X8_setting z x1).2.2)) [.ref (xa 0), .int x1, .ref oa] k := by
  refine HX.body (hh := [(0, 9, 12, 13)]) (by decide) rfl (Nat.le_of_ble_eq_true rfl) ?_
  intro p e s m below meth c hx hb hml htb hr hts hown hlocks hP hG ls hl A hD hA hS hF
  have hl : lv_has ls 4 [(0, .ref (xa 0)), (1, .int x1), (2, .ref oa)] := hl
  have hCF : CallFix p m c cL_setting 4 s ([.ref (xa 0), .int x1, .ref oa] : List Value).toArray wsL_setting RL := ⟨hx, hb, hml, hown, hts⟩
  have hk := in_ec hk
  refine lv_aload_n hx hb dL_setting_0 rfl (lv_at hl 2 rfl) ?_
  refine lv_iconst (v := (0 : Int32)) hx hb dL_setting_1 (by decide) ?_
  refine lv_aload_n hx hb dL_setting_2 rfl (lv_at hl 0 rfl) ?_
  refine lv_iload_n hx hb dL_setting_3 rfl (lv_at hl 1 rfl) ?_
  refine exV (ci := 6) (A0 := A) (As := [.int x1]) (rest := [.int (0 : Int32), .ref oa]) (W1 := (wO cy oa f (wSp cy xa sa sb tr na ka z))) (W2 := wO cy oa f (wSp cy xa sa sb tr na ka (m_X8_setting z x1).2.2)) ((c_X8_setting l hl0 D cy t xa sa sb tr na ka z x1 H.st).out oa f) hCF gL_setting_X8_setting rfl hq_X8_setting ⟨rfl, rfl, Nat.le_of_ble_eq_true rfl, Nat.le_of_ble_eq_true rfl⟩ hG hF hP hD hS hA (congrArg (List.cons oa) h_Sp) rfl rfl (List.mem_cons_of_mem _ (List.mem_of_getElem? g_Sp_0)) rfl hl.1 rfl (Nat.le_of_ble_eq_true rfl) dL_setting_4 ⟨Nat.le_of_ble_eq_true rfl, Nat.le_of_ble_eq_true rfl⟩ (fun h0 ce q9 H locs hP hD hS h1 h2 h3 => ?_) (fun h0 H locs hP hD hS => ?_)
  · rcases hk with ⟨k0, k1⟩ | ⟨k0, k1⟩
    · exact absurd k0 (by omega)
    · rw [k0] at h3
      refine hx_catch (i := 2) hown hF (tableOf []) ⟨0, 9, 12, 13⟩ (tableOf []) (htb.trans rfl) (fun z9 hz => absurd hz List.not_mem_nil) (by decide) (by decide) (hts (Cond.classLink RL 13 (exN 2)) (List.mem_of_getElem? (i := 1) rfl)) h1 h2 h3 ?_
      refine lv_astore_n (lv' := [(3, .ref q9), (0, .ref (xa 0)), (1, .int x1), (2, .ref oa)]) hx hb dL_setting_12 rfl hl (by decide) rfl (fun ls hl => ?_)
      refine lv_iconst (v := (1 : Int32)) hx hb dL_setting_13 (by decide) ?_
      exact hx_iret hx hb hr hlocks hP hS (Nat.le_refl _) (Nat.le_refl _) dL_setting_14 k1.symm (by rw [oV, if_neg (by omega)])
  refine lv_i2l hx hb dL_setting_7 rfl ?_
  refine va_last hx hb hG.1 hP hD hS 0 3 rfl rfl (bd_of (by decide) (by decide)) dL_setting_8 (fun H locs hP hD hS => ?_)
  refine lv_goto (tgt := 15) hx hb dL_setting_9 (by decide) ?_
  refine lv_iconst (v := (0 : Int32)) hx hb dL_setting_15 (by decide) ?_
  refine hx_iret hx hb hr hlocks hP hS (Nat.le_refl _) (Nat.le_refl _) dL_setting_16 ?_ (by rw [oV, if_pos h0]; rfl)
  rcases hk with ⟨k0, k1⟩ | ⟨k0, k1⟩
  · exact k1.symm
  · exact absurd k0 (by omega)
set_option maxRecDepth 20000 in
theorem c_L_come (l : Launch) (hl0 : l.stackTraces = false) (D : va_G) (cy : Nat → ClassId) (t : FxA) (xa sa sb tr na : Nat → Nat) (ka : Nat → Nat → Nat) (oa : Nat) (f : Nat → Int64) {T : Int} {z : SpT} {mo : MoT} (H : PR T z mo) (x1 : Int32) (x2 : Int32) (x3 : Int32) {k : Int32} (hk : ((m_X8_come z x1 x2 x3).1 = 0 ∧ k = 0) ∨ ∃ e ∈ ea, (m_X8_come z x1 x2 x3).1 = e.1 ∧ k = e.2) : HX l D cy t yL_come wsL_come (wO cy oa f (wSp cy xa sa sb tr na ka z)) (wO cy oa (oV f (m_X8_come z x1 x2 x3).1 (m_X8_come z x1 x2 x3).2.1) (wSp cy xa sa sb tr na ka (m_X8_come z x1 x2 x3).2.2)) [.ref (xa 0), .int x1, .int x2, .int x3, .ref oa] k := by
  refine HX.body (hh := [(0, 12, 15, 28), (0, 12, 19, 13), (0, 12, 23, 15)]) (by decide) rfl (Nat.le_of_ble_eq_true rfl) ?_
  intro p e s m below meth c hx hb hml htb hr hts hown hlocks hP hG ls hl A hD hA hS hF
  have hl : lv_has ls 6 [(0, .ref (xa 0)), (1, .int x1), (2, .int x2), (3, .int x3), (4, .ref oa)] := hl
  have hCF : CallFix p m c cL_come 6 s ([.ref (xa 0), .int x1, .int x2, .int x3, .ref oa] : List Value).toArray wsL_come RL := ⟨hx, hb, hml, hown, hts⟩
  have hk := in_ea hk
  refine lv_aload hx hb dL_come_0 (lv_at hl 4 rfl) ?_
  refine lv_iconst (v := (0 : Int32)) hx hb dL_come_2 (by decide) ?_
  refine lv_aload_n hx hb dL_come_3 rfl (lv_at hl 0 rfl) ?_
  refine lv_iload_n hx hb dL_come_4 rfl (lv_at hl 1 rfl) ?_
  refine lv_iload_n hx hb dL_come_5 rfl (lv_at hl 2 rfl) ?_
  refine lv_iload_n hx hb dL_come_6 rfl (lv_at hl 3 rfl) ?_
  refine exV (ci := 6) (A0 := A) (As := [.int x1, .int x2, .int x3]) (rest := [.int (0 : Int32), .ref oa]) (W1 := (wO cy oa f (wSp cy xa sa sb tr na ka z))) (W2 := wO cy oa f (wSp cy xa sa sb tr na ka (m_X8_come z x1 x2 x3).2.2)) ((c_X8_come l hl0 D cy t xa sa sb tr na ka z x1 x2 x3 H.hi H.st).out oa f) hCF gL_come_X8_come rfl hq_X8_come ⟨rfl, rfl, Nat.le_of_ble_eq_true rfl, Nat.le_of_ble_eq_true rfl⟩ hG hF hP hD hS hA (congrArg (List.cons oa) h_Sp) rfl rfl (List.mem_cons_of_mem _ (List.mem_of_getElem? g_Sp_0)) rfl hl.1 rfl (Nat.le_of_ble_eq_true rfl) dL_come_7 ⟨Nat.le_of_ble_eq_true rfl, Nat.le_of_ble_eq_true rfl⟩ (fun h0 ce q9 H locs hP hD hS h1 h2 h3 => ?_) (fun h0 H locs hP hD hS => ?_)
  · rcases hk with ⟨k0, k1⟩ | ⟨k0, k1⟩ | ⟨k0, k1⟩ | ⟨k0, k1⟩
    · exact absurd k0 (by omega)
    · rw [k0] at h3
      refine hx_catch (i := 1) hown hF (tableOf []) ⟨0, 12, 15, 28⟩ (tableOf [(0, 12, 19, 13), (0, 12, 23, 15)]) (htb.trans rfl) (fun z9 hz => absurd hz List.not_mem_nil) (by decide) (by decide) (hts (Cond.classLink RL 28 (exN 1)) (List.mem_of_getElem? (i := 1) rfl)) h1 h2 h3 ?_
      refine lv_astore (lv' := [(5, .ref q9), (0, .ref (xa 0)), (1, .int x1), (2, .int x2), (3, .int x3), (4, .ref oa)]) hx hb dL_come_15 hl (by decide) rfl (fun ls hl => ?_)
      refine lv_iconst (v := (1 : Int32)) hx hb dL_come_17 (by decide) ?_
      exact hx_iret hx hb hr hlocks hP hS (Nat.le_refl _) (Nat.le_refl _) dL_come_18 k1.symm (by rw [oV, if_neg (by omega)])
    · rw [k0] at h3
      refine hx_catch (i := 2) hown hF (tableOf [(0, 12, 15, 28)]) ⟨0, 12, 19, 13⟩ (tableOf [(0, 12, 23, 15)]) (htb.trans rfl) (fun z9 hz => by
        simp only [tableOf, List.map, List.mem_cons, List.not_mem_nil, or_false] at hz
        rcases hz with rfl
        · exact ⟨by decide, 1, hts (Cond.classLink RL 28 (exN 1)) (List.mem_of_getElem? (i := 1) rfl), by decide⟩) (by decide) (by decide) (hts (Cond.classLink RL 13 (exN 2)) (List.mem_of_getElem? (i := 2) rfl)) h1 h2 h3 ?_
      refine lv_astore (lv' := [(5, .ref q9), (0, .ref (xa 0)), (1, .int x1), (2, .int x2), (3, .int x3), (4, .ref oa)]) hx hb dL_come_19 hl (by decide) rfl (fun ls hl => ?_)
      refine lv_iconst (v := (2 : Int32)) hx hb dL_come_21 (by decide) ?_
      exact hx_iret hx hb hr hlocks hP hS (Nat.le_refl _) (Nat.le_refl _) dL_come_22 k1.symm (by rw [oV, if_neg (by omega)])
    · rw [k0] at h3
      refine hx_catch (i := 3) hown hF (tableOf [(0, 12, 15, 28), (0, 12, 19, 13)]) ⟨0, 12, 23, 15⟩ (tableOf []) (htb.trans rfl) (fun z9 hz => by
        simp only [tableOf, List.map, List.mem_cons, List.not_mem_nil, or_false] at hz
        rcases hz with rfl | rfl
        · exact ⟨by decide, 1, hts (Cond.classLink RL 28 (exN 1)) (List.mem_of_getElem? (i := 1) rfl), by decide⟩
        · exact ⟨by decide, 2, hts (Cond.classLink RL 13 (exN 2)) (List.mem_of_getElem? (i := 2) rfl), by decide⟩) (by decide) (by decide) (hts (Cond.classLink RL 15 (exN 3)) (List.mem_of_getElem? (i := 3) rfl)) h1 h2 h3 ?_
      refine lv_astore (lv' := [(5, .ref q9), (0, .ref (xa 0)), (1, .int x1), (2, .int x2), (3, .int x3), (4, .ref oa)]) hx hb dL_come_23 hl (by decide) rfl (fun ls hl => ?_)
      refine lv_iconst (v := (3 : Int32)) hx hb dL_come_25 (by decide) ?_
      exact hx_iret hx hb hr hlocks hP hS (Nat.le_refl _) (Nat.le_refl _) dL_come_26 k1.symm (by rw [oV, if_neg (by omega)])
  refine lv_i2l hx hb dL_come_10 rfl ?_
  refine va_last hx hb hG.1 hP hD hS 0 3 rfl rfl (bd_of (by decide) (by decide)) dL_come_11 (fun H locs hP hD hS => ?_)
  refine lv_goto (tgt := 27) hx hb dL_come_12 (by decide) ?_
  refine lv_iconst (v := (0 : Int32)) hx hb dL_come_27 (by decide) ?_
  refine hx_iret hx hb hr hlocks hP hS (Nat.le_refl _) (Nat.le_refl _) dL_come_28 ?_ (by rw [oV, if_pos h0]; rfl)
  rcases hk with ⟨k0, k1⟩ | ⟨k0, k1⟩ | ⟨k0, k1⟩ | ⟨k0, k1⟩
  · exact k1.symm
  · exact absurd k0 (by omega)
  · exact absurd k0 (by omega)
  · exact absurd k0 (by omega)
set_option maxRecDepth 20000 in
theorem c_L_lend (l : Launch) (hl0 : l.stackTraces = false) (D : va_G) (cy : Nat → ClassId) (t : FxA) (xa sa sb tr na : Nat → Nat) (ka : Nat → Nat → Nat) (oa : Nat) (f : Nat → Int64) {T : Int} {z : SpT} {mo : MoT} (H : PR T z mo) (x1 : Int32) (x2 : Int32) (x3 : Int32) {k : Int32} (hk : ((m_X8_lend z x1 x2 x3).1 = 0 ∧ k = 0) ∨ ∃ e ∈ ea, (m_X8_lend z x1 x2 x3).1 = e.1 ∧ k = e.2) : HX l D cy t yL_lend wsL_lend (wO cy oa f (wSp cy xa sa sb tr na ka z)) (wO cy oa (oV f (m_X8_lend z x1 x2 x3).1 (m_X8_lend z x1 x2 x3).2.1) (wSp cy xa sa sb tr na ka (m_X8_lend z x1 x2 x3).2.2)) [.ref (xa 0), .int x1, .int x2, .int x3, .ref oa] k := by
  refine HX.body (hh := [(0, 12, 15, 28), (0, 12, 19, 13), (0, 12, 23, 15)]) (by decide) rfl (Nat.le_of_ble_eq_true rfl) ?_
  intro p e s m below meth c hx hb hml htb hr hts hown hlocks hP hG ls hl A hD hA hS hF
  have hl : lv_has ls 6 [(0, .ref (xa 0)), (1, .int x1), (2, .int x2), (3, .int x3), (4, .ref oa)] := hl
  have hCF : CallFix p m c cL_lend 6 s ([.ref (xa 0), .int x1, .int x2, .int x3, .ref oa] : List Value).toArray wsL_lend RL := ⟨hx, hb, hml, hown, hts⟩
  have hk := in_ea hk
  refine lv_aload hx hb dL_lend_0 (lv_at hl 4 rfl) ?_
  refine lv_iconst (v := (0 : Int32)) hx hb dL_lend_2 (by decide) ?_
  refine lv_aload_n hx hb dL_lend_3 rfl (lv_at hl 0 rfl) ?_
  refine lv_iload_n hx hb dL_lend_4 rfl (lv_at hl 1 rfl) ?_
  refine lv_iload_n hx hb dL_lend_5 rfl (lv_at hl 2 rfl) ?_
  refine lv_iload_n hx hb dL_lend_6 rfl (lv_at hl 3 rfl) ?_
  refine exV (ci := 6) (A0 := A) (As := [.int x1, .int x2, .int x3]) (rest := [.int (0 : Int32), .ref oa]) (W1 := (wO cy oa f (wSp cy xa sa sb tr na ka z))) (W2 := wO cy oa f (wSp cy xa sa sb tr na ka (m_X8_lend z x1 x2 x3).2.2)) ((c_X8_lend l hl0 D cy t xa sa sb tr na ka z x1 x2 x3 H.hi H.st).out oa f) hCF gL_lend_X8_lend rfl hq_X8_lend ⟨rfl, rfl, Nat.le_of_ble_eq_true rfl, Nat.le_of_ble_eq_true rfl⟩ hG hF hP hD hS hA (congrArg (List.cons oa) h_Sp) rfl rfl (List.mem_cons_of_mem _ (List.mem_of_getElem? g_Sp_0)) rfl hl.1 rfl (Nat.le_of_ble_eq_true rfl) dL_lend_7 ⟨Nat.le_of_ble_eq_true rfl, Nat.le_of_ble_eq_true rfl⟩ (fun h0 ce q9 H locs hP hD hS h1 h2 h3 => ?_) (fun h0 H locs hP hD hS => ?_)
  · rcases hk with ⟨k0, k1⟩ | ⟨k0, k1⟩ | ⟨k0, k1⟩ | ⟨k0, k1⟩
    · exact absurd k0 (by omega)
    · rw [k0] at h3
      refine hx_catch (i := 1) hown hF (tableOf []) ⟨0, 12, 15, 28⟩ (tableOf [(0, 12, 19, 13), (0, 12, 23, 15)]) (htb.trans rfl) (fun z9 hz => absurd hz List.not_mem_nil) (by decide) (by decide) (hts (Cond.classLink RL 28 (exN 1)) (List.mem_of_getElem? (i := 1) rfl)) h1 h2 h3 ?_
      refine lv_astore (lv' := [(5, .ref q9), (0, .ref (xa 0)), (1, .int x1), (2, .int x2), (3, .int x3), (4, .ref oa)]) hx hb dL_lend_15 hl (by decide) rfl (fun ls hl => ?_)
      refine lv_iconst (v := (1 : Int32)) hx hb dL_lend_17 (by decide) ?_
      exact hx_iret hx hb hr hlocks hP hS (Nat.le_refl _) (Nat.le_refl _) dL_lend_18 k1.symm (by rw [oV, if_neg (by omega)])
    · rw [k0] at h3
      refine hx_catch (i := 2) hown hF (tableOf [(0, 12, 15, 28)]) ⟨0, 12, 19, 13⟩ (tableOf [(0, 12, 23, 15)]) (htb.trans rfl) (fun z9 hz => by
        simp only [tableOf, List.map, List.mem_cons, List.not_mem_nil, or_false] at hz
        rcases hz with rfl
        · exact ⟨by decide, 1, hts (Cond.classLink RL 28 (exN 1)) (List.mem_of_getElem? (i := 1) rfl), by decide⟩) (by decide) (by decide) (hts (Cond.classLink RL 13 (exN 2)) (List.mem_of_getElem? (i := 2) rfl)) h1 h2 h3 ?_
      refine lv_astore (lv' := [(5, .ref q9), (0, .ref (xa 0)), (1, .int x1), (2, .int x2), (3, .int x3), (4, .ref oa)]) hx hb dL_lend_19 hl (by decide) rfl (fun ls hl => ?_)
      refine lv_iconst (v := (2 : Int32)) hx hb dL_lend_21 (by decide) ?_
      exact hx_iret hx hb hr hlocks hP hS (Nat.le_refl _) (Nat.le_refl _) dL_lend_22 k1.symm (by rw [oV, if_neg (by omega)])
    · rw [k0] at h3
      refine hx_catch (i := 3) hown hF (tableOf [(0, 12, 15, 28), (0, 12, 19, 13)]) ⟨0, 12, 23, 15⟩ (tableOf []) (htb.trans rfl) (fun z9 hz => by
        simp only [tableOf, List.map, List.mem_cons, List.not_mem_nil, or_false] at hz
        rcases hz with rfl | rfl
        · exact ⟨by decide, 1, hts (Cond.classLink RL 28 (exN 1)) (List.mem_of_getElem? (i := 1) rfl), by decide⟩
        · exact ⟨by decide, 2, hts (Cond.classLink RL 13 (exN 2)) (List.mem_of_getElem? (i := 2) rfl), by decide⟩) (by decide) (by decide) (hts (Cond.classLink RL 15 (exN 3)) (List.mem_of_getElem? (i := 3) rfl)) h1 h2 h3 ?_
      refine lv_astore (lv' := [(5, .ref q9), (0, .ref (xa 0)), (1, .int x1), (2, .int x2), (3, .int x3), (4, .ref oa)]) hx hb dL_lend_23 hl (by decide) rfl (fun ls hl => ?_)
      refine lv_iconst (v := (3 : Int32)) hx hb dL_lend_25 (by decide) ?_
      exact hx_iret hx hb hr hlocks hP hS (Nat.le_refl _) (Nat.le_refl _) dL_lend_26 k1.symm (by rw [oV, if_neg (by omega)])
  refine lv_i2l hx hb dL_lend_10 rfl ?_
  refine va_last hx hb hG.1 hP hD hS 0 3 rfl rfl (bd_of (by decide) (by decide)) dL_lend_11 (fun H locs hP hD hS => ?_)
  refine lv_goto (tgt := 27) hx hb dL_lend_12 (by decide) ?_
  refine lv_iconst (v := (0 : Int32)) hx hb dL_lend_27 (by decide) ?_
  refine hx_iret hx hb hr hlocks hP hS (Nat.le_refl _) (Nat.le_refl _) dL_lend_28 ?_ (by rw [oV, if_pos h0]; rfl)
  rcases hk with ⟨k0, k1⟩ | ⟨k0, k1⟩ | ⟨k0, k1⟩ | ⟨k0, k1⟩
  · exact k1.symm
  · exact absurd k0 (by omega)
  · exact absurd k0 (by omega)
  · exact absurd k0 (by omega)
