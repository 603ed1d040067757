/-! helpers of the law -/
set_option maxRecDepth 20000 in
theorem c_L_append (l : Launch) (hl0 : l.stackTraces = false) (D : va_G) (cy : Nat → ClassId) (t : FxA) (xa sa sb tr na : Nat → Nat) (ka : Nat → Nat → Nat) (oa : Nat) (f : Nat → Int64) {T : Int} {z : SpT} {mo : MoT} (H : PR T z mo) (x1 : Int32) {k : Int32} (hk : ((m_X8_append z x1).1 = 0 ∧ k = 0) ∨ ∃ e ∈ eg, (m_X8_append z x1).1 = e.1 ∧ k = e.2) : HX l D cy t yL_append wsL_append (wO cy oa f (wSp cy xa sa sb tr na ka z)) (wO cy oa (oV f (m_X8_append z x1).1 (m_X8_append z x1).2.1) (wSp cy xa sa sb tr na ka (m_X8_append z x1).2.2)) [.ref (xa 0), .int x1, .ref oa] k := by
  refine HX.body (hh := [(0, 9, 12, 13), (0, 9, 15, 15)]) (by decide) rfl (Nat.le_of_ble_eq_true rfl) ?_
  intro p e s m below meth c hx hb hml htb hr hts hown hlocks hP hG ls hl A hD hA hS hF
  have hl : lv_has ls 4 [(0, .ref (xa 0)), (1, .int x1), (2, .ref oa)] := hl
  have hCF : CallFix p m c cL_append 4 s ([.ref (xa 0), .int x1, .ref oa] : List Value).toArray wsL_append RL := ⟨hx, hb, hml, hown, hts⟩
  have hk := in_eg hk
  refine lv_aload_n hx hb dL_append_0 rfl (lv_at hl 2 rfl) ?_
  refine lv_iconst (v := (0 : Int32)) hx hb dL_append_1 (by decide) ?_
  refine lv_aload_n hx hb dL_append_2 rfl (lv_at hl 0 rfl) ?_
  refine lv_iload_n hx hb dL_append_3 rfl (lv_at hl 1 rfl) ?_
  refine exV (ci := 6) (A0 := A) (As := [.int x1]) (rest := [.int (0 : Int32), .ref oa]) (W1 := (wO cy oa f (wSp cy xa sa sb tr na ka z))) (W2 := wO cy oa f (wSp cy xa sa sb tr na ka (m_X8_append z x1).2.2)) ((c_X8_append l hl0 D cy t xa sa sb tr na ka z x1 H.tl).out oa f) hCF gL_append_X8_append rfl hq_X8_append ⟨rfl, rfl, Nat.le_of_ble_eq_true rfl, Nat.le_of_ble_eq_true rfl⟩ hG hF hP hD hS hA (congrArg (List.cons oa) h_Sp) rfl rfl (List.mem_cons_of_mem _ (List.mem_of_getElem? g_Sp_0)) rfl hl.1 rfl (Nat.le_of_ble_eq_true rfl) dL_append_4 ⟨Nat.le_of_ble_eq_true rfl, Nat.le_of_ble_eq_true rfl⟩ (fun h0 ce q9 H locs hP hD hS h1 h2 h3 => ?_) (fun h0 H locs hP hD hS => ?_)
  · rcases hk with ⟨k0, k1⟩ | ⟨k0, k1⟩ | ⟨k0, k1⟩
    · exact absurd k0 (by omega)
    · rw [k0] at h3
      refine hx_catch (i := 2) hown hF (tableOf []) ⟨0, 9, 12, 13⟩ (tableOf [(0, 9, 15, 15)]) (htb.trans rfl) (fun z9 hz => absurd hz List.not_mem_nil) (by decide) (by decide) (hts (Cond.classLink RL 13 (exN 2)) (List.mem_of_getElem? (i := 1) rfl)) h1 h2 h3 ?_
      refine lv_astore_n (lv' := [(3, .ref q9), (0, .ref (xa 0)), (1, .int x1), (2, .ref oa)]) hx hb dL_append_12 rfl hl (by decide) rfl (fun ls hl => ?_)
      refine lv_iconst (v := (1 : Int32)) hx hb dL_append_13 (by decide) ?_
      exact hx_iret hx hb hr hlocks hP hS (Nat.le_refl _) (Nat.le_refl _) dL_append_14 k1.symm (by rw [oV, if_neg (by omega)])
    · rw [k0] at h3
      refine hx_catch (i := 3) hown hF (tableOf [(0, 9, 12, 13)]) ⟨0, 9, 15, 15⟩ (tableOf []) (htb.trans rfl) (fun z9 hz => by
        simp only [tableOf, List.map, List.mem_cons, List.not_mem_nil, or_false] at hz
        rcases hz with rfl
        · exact ⟨by decide, 2, hts (Cond.classLink RL 13 (exN 2)) (List.mem_of_getElem? (i := 1) rfl), by decide⟩) (by decide) (by decide) (hts (Cond.classLink RL 15 (exN 3)) (List.mem_of_getElem? (i := 2) rfl)) h1 h2 h3 ?_
      refine lv_astore_n (lv' := [(3, .ref q9), (0, .ref (xa 0)), (1, .int x1), (2, .ref oa)]) hx hb dL_append_15 rfl hl (by decide) rfl (fun ls hl => ?_)
      refine lv_iconst (v := (2 : Int32)) hx hb dL_append_16 (by decide) ?_
      exact hx_iret hx hb hr hlocks hP hS (Nat.le_refl _) (Nat.le_refl _) dL_append_17 k1.symm (by rw [oV, if_neg (by omega)])
  refine lv_i2l hx hb dL_append_7 rfl ?_
  refine va_last hx hb hG.1 hP hD hS 0 3 rfl rfl (bd_of (by decide) (by decide)) dL_append_8 (fun H locs hP hD hS => ?_)
  refine lv_goto (tgt := 18) hx hb dL_append_9 (by decide) ?_
  refine lv_iconst (v := (0 : Int32)) hx hb dL_append_18 (by decide) ?_
  refine hx_iret hx hb hr hlocks hP hS (Nat.le_refl _) (Nat.le_refl _) dL_append_19 ?_ (by rw [oV, if_pos h0]; rfl)
  rcases hk with ⟨k0, k1⟩ | ⟨k0, k1⟩ | ⟨k0, k1⟩
  · exact k1.symm
  · exact absurd k0 (by omega)
  · exact absurd k0 (by omega)
