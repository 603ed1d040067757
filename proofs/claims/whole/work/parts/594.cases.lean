/-! the cases of the law -/
set_option maxRecDepth 20000 in
theorem w_append {p : Program} {l : Launch} {e : Env} {s : State} {m : MethodId} {below : List Frame} {meth : Method} {c : Code} {b L : Nat} {xs : Nat → Int32} {D : va_G} {cy : Nat → ClassId} {t : FxA} {A : Nat → Prop} {Q : State → Prop} {xa sa sb tr na : Nat → Nat} {ka : Nat → Nat → Nat} {a0 a1 a2 a3 a4 a5 a6 oa : Nat} (C0 : LC p l s m meth c b L xs D cy t A) {n : Nat} (hn : n + 5 ≤ L) (hL : L ≤ 2560) {cells slots : Nat} (hc : cells + 1 ≤ 601024) (hs : slots + 6 ≤ 7293034) {T : Int} (hT0 : 100000 ≤ T) (hT : T ≤ 1000000) {H : Heap} {locs : List Loc} {ls : Array Slot} {z : SpT} {mo : MoT} {f : Nat → Int64}
    (hl : lv_has ls 7 [(0, .ref b), (1, .ref (xa 0)), (2, .ref a0), (3, .ref oa), (4, .int (nI n))]) (h : PR T z mo) (hP : va_P D vwCl (wO cy oa f (wSp cy xa sa sb tr na ka z ++ wMo cy a0 a1 a2 a3 a4 a5 a6 mo)) H) (hD : va_D A (wO cy oa f (wSp cy xa sa sb tr na ka z ++ wMo cy a0 a1 a2 a3 a4 a5 a6 mo))) (hS : va_S A s.heap H locs)
    (kk : ∀ (ls : Array Slot) (H : Heap) (locs : List Loc) (z : SpT) (mo : MoT) (f : Nat → Int64), lv_has ls 7 [(0, .ref b), (1, .ref (xa 0)), (2, .ref a0), (3, .ref oa), (4, .int (nI n))] → PR (T + 99) z mo → va_P D vwCl (wO cy oa f (wSp cy xa sa sb tr na ka z ++ wMo cy a0 a1 a2 a3 a4 a5 a6 mo)) H → va_D A (wO cy oa f (wSp cy xa sa sb tr na ka z ++ wMo cy a0 a1 a2 a3 a4 a5 a6 mo)) → va_S A s.heap H locs → Wx p l e room_1 s m #[Value.ref b] below meth c H locs (cells + 1) (slots + 6) Q (F0 m 2164 ls [])) : Wx p l e room_1 s m #[Value.ref b] below meth c H locs cells slots Q (F0 m 180 ls []) := by
  obtain ⟨hx, hb, hCF, hG, hF, hX, hbl, hbA, hA, hl0, hown⟩ := C0
  refine lv_aload_n hx hb dL_law_180 rfl (lv_at hl 1 rfl) ?_
  refine lv_aload_n hx hb dL_law_181 rfl (lv_at hl 0 rfl) ?_
  refine lv_iload hx hb dL_law_182 (lv_at hl 4 rfl) ?_
  refine lv_iconst (v := (1 : Int32)) hx hb dL_law_184 (by decide) ?_
  refine lv_iadd hx hb dL_law_185 ?_
  refine va_sld hx hb hX hbl hbA hS (si_in (k := 1) (by omega) hL i_k1) dL_law_186 ?_
  refine lv_aload_n hx hb dL_law_187 rfl (lv_at hl 3 rfl) ?_
  have ag := ag_append (x1 := (xs (nI n + 1).toNatClampNeg)) h
  have cL := (c_L_append l hl0 D cy t xa sa sb tr na ka oa f h (xs (nI n + 1).toNatClampNeg) (ag_k ag)).ctx (r := wMo cy a0 a1 a2 a3 a4 a5 a6 mo) wO_app wO_app
  have cM := ((c_X9_append l D cy a0 a1 a2 a3 a4 a5 a6 mo (xs (nI n + 1).toNatClampNeg) h.mz).ctx (r := wO cy oa (oV f (m_X8_append z (xs (nI n + 1).toNatClampNeg)).1 (m_X8_append z (xs (nI n + 1).toNatClampNeg)).2.1) (wSp cy xa sa sb tr na ka (m_X8_append z (xs (nI n + 1).toNatClampNeg)).2.2)) wO_app2 wO_app2)
  generalize m_X8_append z (xs (nI n + 1).toNatClampNeg) = C2 at *
  generalize m_X9_append mo (xs (nI n + 1).toNatClampNeg) = M2 at *
  refine hxS (A0 := A) (As := [.ref (xa 0), .int (xs (nI n + 1).toNatClampNeg), .ref oa]) (rest := []) (W1 := wO cy oa f (wSp cy xa sa sb tr na ka z ++ wMo cy a0 a1 a2 a3 a4 a5 a6 mo)) (W2 := wO cy oa (oV f C2.1 C2.2.1) (wSp cy xa sa sb tr na ka C2.2.2 ++ wMo cy a0 a1 a2 a3 a4 a5 a6 mo)) cL hCF gL_law_L_append rfl hq_L_append ⟨Nat.le_of_ble_eq_true rfl, Nat.le_of_ble_eq_true rfl⟩ hG hF hP hD hS hA (h_wL h_Sp rfl) rfl hl.1 rfl (Nat.le_of_ble_eq_true rfl) dL_law_188 ⟨hc, hs⟩ (fun H locs hP hD hS => ?_)
  refine lv_istore (lv' := (5, .int (mR M2.2)) :: [(0, .ref b), (1, .ref (xa 0)), (2, .ref a0), (3, .ref oa), (4, .int (nI n))]) hx hb dL_law_191 hl (by decide) rfl (fun ls hl => ?_)
  refine lv_aload_n hx hb dL_law_193 rfl (lv_at hl 3 rfl) ?_
  refine lv_aload_n hx hb dL_law_194 rfl (lv_at hl 1 rfl) ?_
  refine lv_iload hx hb dL_law_195 (lv_at hl 5 rfl) ?_
  refine lv_iconst (v := (1 : Int32)) hx hb dL_law_197 (by decide) ?_
  refine lv_iadd hx hb dL_law_198 ?_
  refine va_sld hx hb hX hbl hbA hS (si_in (k := 1) (by omega) hL i_k1) dL_law_199 ?_
  refine mwV (ci := 7) (A0 := A) (As := [.int (xs (nI n + 1).toNatClampNeg)]) (rest := []) (W1 := wO cy oa (oV f C2.1 C2.2.1) (wSp cy xa sa sb tr na ka C2.2.2 ++ wMo cy a0 a1 a2 a3 a4 a5 a6 mo)) (W2 := wO cy oa (oV f C2.1 C2.2.1) (wSp cy xa sa sb tr na ka C2.2.2 ++ wMo cy a0 a1 a2 a3 a4 a5 a6 M2.2)) cM hCF gL_law_X9_append rfl hd_X9_append ⟨rfl, rfl, Nat.le_of_ble_eq_true rfl, Nat.le_of_ble_eq_true rfl⟩ hG hP hD hS hA (h_wL rfl h_Mo) rfl rfl (List.mem_cons_of_mem _ (List.mem_append_right _ (List.mem_of_getElem? g_Mo_0))) rfl hl.1 rfl (Nat.le_of_ble_eq_true rfl) dL_law_200 ⟨hc, hs⟩ (fun H locs hP hD hS => ?_)
  refine lv_istore (lv' := (6, .int M2.1) :: (5, .int (mR M2.2)) :: [(0, .ref b), (1, .ref (xa 0)), (2, .ref a0), (3, .ref oa), (4, .int (nI n))]) hx hb dL_law_203 hl (by decide) rfl (fun ls hl => ?_)
  refine lv_aload_n hx hb dL_law_205 rfl (lv_at hl 4 rfl) ?_
  refine rwV (ci := 7) (As := []) (rest := []) (W1 := wO cy oa (oV f C2.1 C2.2.1) (wSp cy xa sa sb tr na ka C2.2.2 ++ wMo cy a0 a1 a2 a3 a4 a5 a6 M2.2)) ((c_X9_thrown l D cy a0 a1 a2 a3 a4 a5 a6 M2.2).ctx (r := wO cy oa (oV f C2.1 C2.2.1) (wSp cy xa sa sb tr na ka C2.2.2)) wO_app2) hCF gL_law_X9_thrown rfl hd_X9_thrown ⟨rfl, rfl, Nat.le_of_ble_eq_true rfl, Nat.le_of_ble_eq_true rfl⟩ hG hP rfl rfl (List.mem_cons_of_mem _ (List.mem_append_right _ (List.mem_of_getElem? g_Mo_0))) rfl hl.1 rfl (Nat.le_of_ble_eq_true rfl) dL_law_206 ⟨hc, hs⟩ ?_
  refine lv_iload hx hb dL_law_209 (lv_at hl 1 rfl) ?_
  refine lv_icmp_eq (tgt := 216) hx hb dL_law_211 (by decide) (fun _ => ?_) (fun q => absurd rfl q)
  refine lv_iload hx hb dL_law_216 (lv_at hl 1 rfl) ?_
  refine lv_if_ne (tgt := 233) hx hb dL_law_218 (by decide) (fun _ => ?_) (fun k0 => ?_)
  · refine lv_goto (tgt := 2164) hx hb dL_law_233 (by decide) ?_
    exact kk _ _ _ _ _ _ (kl_sub hl) ag.1 hP hD hS
  refine lv_aload_n hx hb dL_law_221 rfl (lv_at hl 5 rfl) ?_
  refine lv_iconst (v := (0 : Int32)) hx hb dL_law_222 (by decide) ?_
  refine va_lald hx hb hG.1 hP 0 3 rfl rfl (bd_of (by decide) (by decide)) dL_law_223 ?_
  refine lv_iload hx hb dL_law_224 (lv_at hl 0 rfl) ?_
  refine lv_i2l hx hb dL_law_226 rfl ?_
  refine W.lcmp hx hb dL_law_227 ?_
  have av := ag_v ag nz_eg k0
  refine lv_if_eq (tgt := 233) hx hb dL_law_228 (by decide) (fun _ => ?_) (fun q => absurd (lg_same ((oV_get av.1).trans (congrArg Int32.toInt64 av.2))) q)
  refine lv_goto (tgt := 2164) hx hb dL_law_233 (by decide) ?_
  exact kk _ _ _ _ _ _ (kl_sub hl) ag.1 hP hD hS
set_option maxRecDepth 20000 in
theorem w_clearText {p : Program} {l : Launch} {e : Env} {s : State} {m : MethodId} {below : List Frame} {meth : Method} {c : Code} {b L : Nat} {xs : Nat → Int32} {D : va_G} {cy : Nat → ClassId} {t : FxA} {A : Nat → Prop} {Q : State → Prop} {xa sa sb tr na : Nat → Nat} {ka : Nat → Nat → Nat} {a0 a1 a2 a3 a4 a5 a6 oa : Nat} (C0 : LC p l s m meth c b L xs D cy t A) {n : Nat} (hn : n + 5 ≤ L) (hL : L ≤ 2560) {cells slots : Nat} (hc : cells + 1 ≤ 601024) (hs : slots + 6 ≤ 7293034) {T : Int} (hT0 : 100000 ≤ T) (hT : T ≤ 1000000) {H : Heap} {locs : List Loc} {ls : Array Slot} {z : SpT} {mo : MoT} {f : Nat → Int64}
    (hl : lv_has ls 7 [(0, .ref b), (1, .ref (xa 0)), (2, .ref a0), (3, .ref oa), (4, .int (nI n))]) (h : PR T z mo) (hP : va_P D vwCl (wO cy oa f (wSp cy xa sa sb tr na ka z ++ wMo cy a0 a1 a2 a3 a4 a5 a6 mo)) H) (hD : va_D A (wO cy oa f (wSp cy xa sa sb tr na ka z ++ wMo cy a0 a1 a2 a3 a4 a5 a6 mo))) (hS : va_S A s.heap H locs)
    (kk : ∀ (ls : Array Slot) (H : Heap) (locs : List Loc) (z : SpT) (mo : MoT) (f : Nat → Int64), lv_has ls 7 [(0, .ref b), (1, .ref (xa 0)), (2, .ref a0), (3, .ref oa), (4, .int (nI n))] → PR (T + 99) z mo → va_P D vwCl (wO cy oa f (wSp cy xa sa sb tr na ka z ++ wMo cy a0 a1 a2 a3 a4 a5 a6 mo)) H → va_D A (wO cy oa f (wSp cy xa sa sb tr na ka z ++ wMo cy a0 a1 a2 a3 a4 a5 a6 mo)) → va_S A s.heap H locs → Wx p l e room_1 s m #[Value.ref b] below meth c H locs (cells + 1) (slots + 6) Q (F0 m 2164 ls [])) : Wx p l e room_1 s m #[Value.ref b] below meth c H locs cells slots Q (F0 m 236 ls []) := by
  obtain ⟨hx, hb, hCF, hG, hF, hX, hbl, hbA, hA, hl0, hown⟩ := C0
  refine lv_aload_n hx hb dL_law_236 rfl (lv_at hl 1 rfl) ?_
  have ag := ag_clearText h
  have cC := (c_X8_clearText l D cy xa sa sb tr na ka z).ctx (r := (oa, .inl (cy 3, 1, .inr (.inl f))) :: wMo cy a0 a1 a2 a3 a4 a5 a6 mo) (wO_app3 (f := f)) (wO_app3 (f := f))
  have cM := (c_X9_clearText l D cy a0 a1 a2 a3 a4 a5 a6 mo).ctx (r := wO cy oa f (wSp cy xa sa sb tr na ka (pT' z (tL' (pT z) 0)))) wO_app2 wO_app2
  generalize pT' z (tL' (pT z) 0) = Z2 at *
  generalize tL (pT z) = V2 at *
  generalize m_X9_clearText mo = M2 at *
  refine mwV (ci := 6) (A0 := A) (As := []) (rest := []) (W1 := wO cy oa f (wSp cy xa sa sb tr na ka z ++ wMo cy a0 a1 a2 a3 a4 a5 a6 mo)) (W2 := wO cy oa f (wSp cy xa sa sb tr na ka Z2 ++ wMo cy a0 a1 a2 a3 a4 a5 a6 mo)) cC hCF gL_law_X8_clearText rfl hq_X8_clearText ⟨rfl, rfl, Nat.le_of_ble_eq_true rfl, Nat.le_of_ble_eq_true rfl⟩ hG hP hD hS hA (h_wL h_Sp rfl) rfl rfl (List.mem_cons_of_mem _ (List.mem_append_left _ (List.mem_of_getElem? g_Sp_0))) rfl hl.1 rfl (Nat.le_of_ble_eq_true rfl) dL_law_237 ⟨by show cells ≤ 601024; omega, by show slots ≤ 7293034; omega⟩ (fun H locs hP hD hS => ?_)
  refine lv_aload_n hx hb dL_law_240 rfl (lv_at hl 2 rfl) ?_
  refine mwV (ci := 7) (A0 := A) (As := []) (rest := [.int V2]) (W1 := wO cy oa f (wSp cy xa sa sb tr na ka Z2 ++ wMo cy a0 a1 a2 a3 a4 a5 a6 mo)) (W2 := wO cy oa f (wSp cy xa sa sb tr na ka Z2 ++ wMo cy a0 a1 a2 a3 a4 a5 a6 M2.2)) cM hCF gL_law_X9_clearText rfl hd_X9_clearText ⟨rfl, rfl, Nat.le_of_ble_eq_true rfl, Nat.le_of_ble_eq_true rfl⟩ hG hP hD hS hA (h_wL rfl h_Mo) rfl rfl (List.mem_cons_of_mem _ (List.mem_append_right _ (List.mem_of_getElem? g_Mo_0))) rfl hl.1 rfl (Nat.le_of_ble_eq_true rfl) dL_law_241 ⟨by show cells ≤ 601024; omega, by show slots ≤ 7293034; omega⟩ (fun H locs hP hD hS => ?_)
  refine lv_icmp_eq (tgt := 2164) hx hb dL_law_244 (by decide) (fun _ => ?_) (fun q => absurd ag.2 q)
  refine W.widen (Nat.le_succ _) (Nat.le_add_right _ 6) ?_
  exact kk _ _ _ _ _ _ hl ag.1 hP hD hS
set_option maxRecDepth 20000 in
theorem w_errorPosition {p : Program} {l : Launch} {e : Env} {s : State} {m : MethodId} {below : List Frame} {meth : Method} {c : Code} {b L : Nat} {xs : Nat → Int32} {D : va_G} {cy : Nat → ClassId} {t : FxA} {A : Nat → Prop} {Q : State → Prop} {xa sa sb tr na : Nat → Nat} {ka : Nat → Nat → Nat} {a0 a1 a2 a3 a4 a5 a6 oa : Nat} (C0 : LC p l s m meth c b L xs D cy t A) {n : Nat} (hn : n + 5 ≤ L) (hL : L ≤ 2560) {cells slots : Nat} (hc : cells + 1 ≤ 601024) (hs : slots + 6 ≤ 7293034) {T : Int} (hT0 : 100000 ≤ T) (hT : T ≤ 1000000) {H : Heap} {locs : List Loc} {ls : Array Slot} {z : SpT} {mo : MoT} {f : Nat → Int64}
    (hl : lv_has ls 7 [(0, .ref b), (1, .ref (xa 0)), (2, .ref a0), (3, .ref oa), (4, .int (nI n))]) (h : PR T z mo) (hP : va_P D vwCl (wO cy oa f (wSp cy xa sa sb tr na ka z ++ wMo cy a0 a1 a2 a3 a4 a5 a6 mo)) H) (hD : va_D A (wO cy oa f (wSp cy xa sa sb tr na ka z ++ wMo cy a0 a1 a2 a3 a4 a5 a6 mo))) (hS : va_S A s.heap H locs)
    (kk : ∀ (ls : Array Slot) (H : Heap) (locs : List Loc) (z : SpT) (mo : MoT) (f : Nat → Int64), lv_has ls 7 [(0, .ref b), (1, .ref (xa 0)), (2, .ref a0), (3, .ref oa), (4, .int (nI n))] → PR (T + 99) z mo → va_P D vwCl (wO cy oa f (wSp cy xa sa sb tr na ka z ++ wMo cy a0 a1 a2 a3 a4 a5 a6 mo)) H → va_D A (wO cy oa f (wSp cy xa sa sb tr na ka z ++ wMo cy a0 a1 a2 a3 a4 a5 a6 mo)) → va_S A s.heap H locs → Wx p l e room_1 s m #[Value.ref b] below meth c H locs (cells + 1) (slots + 6) Q (F0 m 2164 ls [])) : Wx p l e room_1 s m #[Value.ref b] below meth c H locs cells slots Q (F0 m 249 ls []) := by
  obtain ⟨hx, hb, hCF, hG, hF, hX, hbl, hbA, hA, hl0, hown⟩ := C0
  refine lv_aload_n hx hb dL_law_249 rfl (lv_at hl 1 rfl) ?_
  have ag := ag_errorPosition h
  have cC := (c_X8_errorPosition l D cy t xa sa sb tr na ka z h.tl).ctx (r := (oa, .inl (cy 3, 1, .inr (.inl f))) :: wMo cy a0 a1 a2 a3 a4 a5 a6 mo) (wO_app3 (f := f)) (wO_app3 (f := f))
  have cM := (c_X9_errorPosition l D cy a0 a1 a2 a3 a4 a5 a6 mo h.mz).ctx (r := wO cy oa f (wSp cy xa sa sb tr na ka (pT' z (m_X6_firstError (pT z)).2))) wO_app2 wO_app2
  generalize pT' z (m_X6_firstError (pT z)).2 = Z2 at *
  generalize (m_X6_firstError (pT z)).1 = V2 at *
  generalize m_X9_errorPosition mo = M2 at *
  refine fwV (ci := 6) (A0 := A) (As := []) (rest := []) (W1 := wO cy oa f (wSp cy xa sa sb tr na ka z ++ wMo cy a0 a1 a2 a3 a4 a5 a6 mo)) (W2 := wO cy oa f (wSp cy xa sa sb tr na ka Z2 ++ wMo cy a0 a1 a2 a3 a4 a5 a6 mo)) cC hCF gL_law_X8_errorPosition rfl hq_X8_errorPosition ⟨rfl, rfl, Nat.le_of_ble_eq_true rfl, Nat.le_of_ble_eq_true rfl⟩ hG hF hP hD hS hA (h_wL h_Sp rfl) rfl rfl (List.mem_cons_of_mem _ (List.mem_append_left _ (List.mem_of_getElem? g_Sp_0))) rfl hl.1 rfl (Nat.le_of_ble_eq_true rfl) dL_law_250 ⟨by show cells ≤ 601024; omega, by show slots ≤ 7293034; omega⟩ (fun H locs hP hD hS => ?_)
  refine lv_aload_n hx hb dL_law_253 rfl (lv_at hl 2 rfl) ?_
  refine mwV (ci := 7) (A0 := A) (As := []) (rest := [.int V2]) (W1 := wO cy oa f (wSp cy xa sa sb tr na ka Z2 ++ wMo cy a0 a1 a2 a3 a4 a5 a6 mo)) (W2 := wO cy oa f (wSp cy xa sa sb tr na ka Z2 ++ wMo cy a0 a1 a2 a3 a4 a5 a6 M2.2)) cM hCF gL_law_X9_errorPosition rfl hd_X9_errorPosition ⟨rfl, rfl, Nat.le_of_ble_eq_true rfl, Nat.le_of_ble_eq_true rfl⟩ hG hP hD hS hA (h_wL rfl h_Mo) rfl rfl (List.mem_cons_of_mem _ (List.mem_append_right _ (List.mem_of_getElem? g_Mo_0))) rfl hl.1 rfl (Nat.le_of_ble_eq_true rfl) dL_law_254 ⟨by show cells ≤ 601024; omega, by show slots ≤ 7293034; omega⟩ (fun H locs hP hD hS => ?_)
  refine lv_icmp_eq (tgt := 2164) hx hb dL_law_257 (by decide) (fun _ => ?_) (fun q => absurd ag.2 q)
  refine W.widen (Nat.le_succ _) (Nat.le_add_right _ 6) ?_
  exact kk _ _ _ _ _ _ hl ag.1 hP hD hS
set_option maxRecDepth 20000 in
theorem w_load {p : Program} {l : Launch} {e : Env} {s : State} {m : MethodId} {below : List Frame} {meth : Method} {c : Code} {b L : Nat} {xs : Nat → Int32} {D : va_G} {cy : Nat → ClassId} {t : FxA} {A : Nat → Prop} {Q : State → Prop} {xa sa sb tr na : Nat → Nat} {ka : Nat → Nat → Nat} {a0 a1 a2 a3 a4 a5 a6 oa : Nat} (C0 : LC p l s m meth c b L xs D cy t A) {n : Nat} (hn : n + 5 ≤ L) (hL : L ≤ 2560) {cells slots : Nat} (hc : cells + 1 ≤ 601024) (hs : slots + 6 ≤ 7293034) {T : Int} (hT0 : 100000 ≤ T) (hT : T ≤ 1000000) {H : Heap} {locs : List Loc} {ls : Array Slot} {z : SpT} {mo : MoT} {f : Nat → Int64}
    (hl : lv_has ls 7 [(0, .ref b), (1, .ref (xa 0)), (2, .ref a0), (3, .ref oa), (4, .int (nI n))]) (h : PR T z mo) (hP : va_P D vwCl (wO cy oa f (wSp cy xa sa sb tr na ka z ++ wMo cy a0 a1 a2 a3 a4 a5 a6 mo)) H) (hD : va_D A (wO cy oa f (wSp cy xa sa sb tr na ka z ++ wMo cy a0 a1 a2 a3 a4 a5 a6 mo))) (hS : va_S A s.heap H locs)
    (kk : ∀ (ls : Array Slot) (H : Heap) (locs : List Loc) (z : SpT) (mo : MoT) (f : Nat → Int64), lv_has ls 7 [(0, .ref b), (1, .ref (xa 0)), (2, .ref a0), (3, .ref oa), (4, .int (nI n))] → PR (T + 99) z mo → va_P D vwCl (wO cy oa f (wSp cy xa sa sb tr na ka z ++ wMo cy a0 a1 a2 a3 a4 a5 a6 mo)) H → va_D A (wO cy oa f (wSp cy xa sa sb tr na ka z ++ wMo cy a0 a1 a2 a3 a4 a5 a6 mo)) → va_S A s.heap H locs → Wx p l e room_1 s m #[Value.ref b] below meth c H locs (cells + 1) (slots + 6) Q (F0 m 2164 ls [])) : Wx p l e room_1 s m #[Value.ref b] below meth c H locs cells slots Q (F0 m 262 ls []) := by
  obtain ⟨hx, hb, hCF, hG, hF, hX, hbl, hbA, hA, hl0, hown⟩ := C0
  refine lv_aload_n hx hb dL_law_262 rfl (lv_at hl 1 rfl) ?_
  refine lv_aload_n hx hb dL_law_263 rfl (lv_at hl 3 rfl) ?_
  have ag := ag_load h hT0
  have cL := (c_L_load l hl0 D cy t xa sa sb tr na ka oa f h (ag_k ag)).ctx (r := wMo cy a0 a1 a2 a3 a4 a5 a6 mo) wO_app wO_app
  have cM := ((c_X9_load l D cy a0 a1 a2 a3 a4 a5 a6 mo h.mz).ctx (r := wO cy oa (oV f (m_X8_load z).1 (m_X8_load z).2.1) (wSp cy xa sa sb tr na ka (m_X8_load z).2.2)) wO_app2 wO_app2)
  generalize m_X8_load z = C2 at *
  generalize m_X9_load mo = M2 at *
  refine hxS (A0 := A) (As := [.ref (xa 0), .ref oa]) (rest := []) (W1 := wO cy oa f (wSp cy xa sa sb tr na ka z ++ wMo cy a0 a1 a2 a3 a4 a5 a6 mo)) (W2 := wO cy oa (oV f C2.1 C2.2.1) (wSp cy xa sa sb tr na ka C2.2.2 ++ wMo cy a0 a1 a2 a3 a4 a5 a6 mo)) cL hCF gL_law_L_load rfl hq_L_load ⟨Nat.le_of_ble_eq_true rfl, Nat.le_of_ble_eq_true rfl⟩ hG hF hP hD hS hA (h_wL h_Sp rfl) rfl hl.1 rfl (Nat.le_of_ble_eq_true rfl) dL_law_264 ⟨hc, hs⟩ (fun H locs hP hD hS => ?_)
  refine lv_istore (lv' := (5, .int (mR M2.2)) :: [(0, .ref b), (1, .ref (xa 0)), (2, .ref a0), (3, .ref oa), (4, .int (nI n))]) hx hb dL_law_267 hl (by decide) rfl (fun ls hl => ?_)
  refine lv_aload_n hx hb dL_law_269 rfl (lv_at hl 3 rfl) ?_
  refine mwV (ci := 7) (A0 := A) (As := []) (rest := []) (W1 := wO cy oa (oV f C2.1 C2.2.1) (wSp cy xa sa sb tr na ka C2.2.2 ++ wMo cy a0 a1 a2 a3 a4 a5 a6 mo)) (W2 := wO cy oa (oV f C2.1 C2.2.1) (wSp cy xa sa sb tr na ka C2.2.2 ++ wMo cy a0 a1 a2 a3 a4 a5 a6 M2.2)) cM hCF gL_law_X9_load rfl hd_X9_load ⟨rfl, rfl, Nat.le_of_ble_eq_true rfl, Nat.le_of_ble_eq_true rfl⟩ hG hP hD hS hA (h_wL rfl h_Mo) rfl rfl (List.mem_cons_of_mem _ (List.mem_append_right _ (List.mem_of_getElem? g_Mo_0))) rfl hl.1 rfl (Nat.le_of_ble_eq_true rfl) dL_law_270 ⟨hc, hs⟩ (fun H locs hP hD hS => ?_)
  refine lv_istore (lv' := (6, .int M2.1) :: (5, .int (mR M2.2)) :: [(0, .ref b), (1, .ref (xa 0)), (2, .ref a0), (3, .ref oa), (4, .int (nI n))]) hx hb dL_law_273 hl (by decide) rfl (fun ls hl => ?_)
  refine lv_aload_n hx hb dL_law_275 rfl (lv_at hl 4 rfl) ?_
  refine rwV (ci := 7) (As := []) (rest := []) (W1 := wO cy oa (oV f C2.1 C2.2.1) (wSp cy xa sa sb tr na ka C2.2.2 ++ wMo cy a0 a1 a2 a3 a4 a5 a6 M2.2)) ((c_X9_thrown l D cy a0 a1 a2 a3 a4 a5 a6 M2.2).ctx (r := wO cy oa (oV f C2.1 C2.2.1) (wSp cy xa sa sb tr na ka C2.2.2)) wO_app2) hCF gL_law_X9_thrown rfl hd_X9_thrown ⟨rfl, rfl, Nat.le_of_ble_eq_true rfl, Nat.le_of_ble_eq_true rfl⟩ hG hP rfl rfl (List.mem_cons_of_mem _ (List.mem_append_right _ (List.mem_of_getElem? g_Mo_0))) rfl hl.1 rfl (Nat.le_of_ble_eq_true rfl) dL_law_276 ⟨hc, hs⟩ ?_
  refine lv_iload hx hb dL_law_279 (lv_at hl 1 rfl) ?_
  refine lv_icmp_eq (tgt := 286) hx hb dL_law_281 (by decide) (fun _ => ?_) (fun q => absurd rfl q)
  refine lv_iload hx hb dL_law_286 (lv_at hl 1 rfl) ?_
  refine lv_if_ne (tgt := 303) hx hb dL_law_288 (by decide) (fun _ => ?_) (fun k0 => ?_)
  · refine lv_goto (tgt := 2164) hx hb dL_law_303 (by decide) ?_
    exact kk _ _ _ _ _ _ (kl_sub hl) ag.1 hP hD hS
  refine lv_aload_n hx hb dL_law_291 rfl (lv_at hl 5 rfl) ?_
  refine lv_iconst (v := (0 : Int32)) hx hb dL_law_292 (by decide) ?_
  refine va_lald hx hb hG.1 hP 0 3 rfl rfl (bd_of (by decide) (by decide)) dL_law_293 ?_
  refine lv_iload hx hb dL_law_294 (lv_at hl 0 rfl) ?_
  refine lv_i2l hx hb dL_law_296 rfl ?_
  refine W.lcmp hx hb dL_law_297 ?_
  have av := ag_v ag nz_ef k0
  refine lv_if_eq (tgt := 303) hx hb dL_law_298 (by decide) (fun _ => ?_) (fun q => absurd (lg_same ((oV_get av.1).trans (congrArg Int32.toInt64 av.2))) q)
  refine lv_goto (tgt := 2164) hx hb dL_law_303 (by decide) ?_
  exact kk _ _ _ _ _ _ (kl_sub hl) ag.1 hP hD hS
set_option maxRecDepth 20000 in
theorem w_about {p : Program} {l : Launch} {e : Env} {s : State} {m : MethodId} {below : List Frame} {meth : Method} {c : Code} {b L : Nat} {xs : Nat → Int32} {D : va_G} {cy : Nat → ClassId} {t : FxA} {A : Nat → Prop} {Q : State → Prop} {xa sa sb tr na : Nat → Nat} {ka : Nat → Nat → Nat} {a0 a1 a2 a3 a4 a5 a6 oa : Nat} (C0 : LC p l s m meth c b L xs D cy t A) {n : Nat} (hn : n + 5 ≤ L) (hL : L ≤ 2560) {cells slots : Nat} (hc : cells + 1 ≤ 601024) (hs : slots + 6 ≤ 7293034) {T : Int} (hT0 : 100000 ≤ T) (hT : T ≤ 1000000) {H : Heap} {locs : List Loc} {ls : Array Slot} {z : SpT} {mo : MoT} {f : Nat → Int64}
    (hl : lv_has ls 7 [(0, .ref b), (1, .ref (xa 0)), (2, .ref a0), (3, .ref oa), (4, .int (nI n))]) (h : PR T z mo) (hP : va_P D vwCl (wO cy oa f (wSp cy xa sa sb tr na ka z ++ wMo cy a0 a1 a2 a3 a4 a5 a6 mo)) H) (hD : va_D A (wO cy oa f (wSp cy xa sa sb tr na ka z ++ wMo cy a0 a1 a2 a3 a4 a5 a6 mo))) (hS : va_S A s.heap H locs)
    (kk : ∀ (ls : Array Slot) (H : Heap) (locs : List Loc) (z : SpT) (mo : MoT) (f : Nat → Int64), lv_has ls 7 [(0, .ref b), (1, .ref (xa 0)), (2, .ref a0), (3, .ref oa), (4, .int (nI n))] → PR (T + 99) z mo → va_P D vwCl (wO cy oa f (wSp cy xa sa sb tr na ka z ++ wMo cy a0 a1 a2 a3 a4 a5 a6 mo)) H → va_D A (wO cy oa f (wSp cy xa sa sb tr na ka z ++ wMo cy a0 a1 a2 a3 a4 a5 a6 mo)) → va_S A s.heap H locs → Wx p l e room_1 s m #[Value.ref b] below meth c H locs (cells + 1) (slots + 6) Q (F0 m 2164 ls [])) : Wx p l e room_1 s m #[Value.ref b] below meth c H locs cells slots Q (F0 m 306 ls []) := by
  obtain ⟨hx, hb, hCF, hG, hF, hX, hbl, hbA, hA, hl0, hown⟩ := C0
  refine lv_aload_n hx hb dL_law_306 rfl (lv_at hl 1 rfl) ?_
  refine lv_aload_n hx hb dL_law_307 rfl (lv_at hl 0 rfl) ?_
  refine lv_iload hx hb dL_law_308 (lv_at hl 4 rfl) ?_
  refine lv_iconst (v := (1 : Int32)) hx hb dL_law_310 (by decide) ?_
  refine lv_iadd hx hb dL_law_311 ?_
  refine va_sld hx hb hX hbl hbA hS (si_in (k := 1) (by omega) hL i_k1) dL_law_312 ?_
  refine lv_aload_n hx hb dL_law_313 rfl (lv_at hl 3 rfl) ?_
  have ag := ag_about (x1 := (xs (nI n + 1).toNatClampNeg)) h
  have cL := (c_L_about l hl0 D cy t xa sa sb tr na ka oa f h (xs (nI n + 1).toNatClampNeg) (ag_k ag)).ctx (r := wMo cy a0 a1 a2 a3 a4 a5 a6 mo) wO_app wO_app
  have cM := ((c_X9_about l D cy a0 a1 a2 a3 a4 a5 a6 mo (xs (nI n + 1).toNatClampNeg) h.ro).ctx (r := wO cy oa (oV f (m_X8_about z (xs (nI n + 1).toNatClampNeg)).1 (m_X8_about z (xs (nI n + 1).toNatClampNeg)).2.1) (wSp cy xa sa sb tr na ka (m_X8_about z (xs (nI n + 1).toNatClampNeg)).2.2)) wO_app2 wO_app2)
  generalize m_X8_about z (xs (nI n + 1).toNatClampNeg) = C2 at *
  generalize m_X9_about mo (xs (nI n + 1).toNatClampNeg) = M2 at *
  refine hxS (A0 := A) (As := [.ref (xa 0), .int (xs (nI n + 1).toNatClampNeg), .ref oa]) (rest := []) (W1 := wO cy oa f (wSp cy xa sa sb tr na ka z ++ wMo cy a0 a1 a2 a3 a4 a5 a6 mo)) (W2 := wO cy oa (oV f C2.1 C2.2.1) (wSp cy xa sa sb tr na ka C2.2.2 ++ wMo cy a0 a1 a2 a3 a4 a5 a6 mo)) cL hCF gL_law_L_about rfl hq_L_about ⟨Nat.le_of_ble_eq_true rfl, Nat.le_of_ble_eq_true rfl⟩ hG hF hP hD hS hA (h_wL h_Sp rfl) rfl hl.1 rfl (Nat.le_of_ble_eq_true rfl) dL_law_314 ⟨hc, hs⟩ (fun H locs hP hD hS => ?_)
  refine lv_istore (lv' := (5, .int (mR M2.2)) :: [(0, .ref b), (1, .ref (xa 0)), (2, .ref a0), (3, .ref oa), (4, .int (nI n))]) hx hb dL_law_317 hl (by decide) rfl (fun ls hl => ?_)
  refine lv_aload_n hx hb dL_law_319 rfl (lv_at hl 3 rfl) ?_
  refine lv_aload_n hx hb dL_law_320 rfl (lv_at hl 1 rfl) ?_
  refine lv_iload hx hb dL_law_321 (lv_at hl 5 rfl) ?_
  refine lv_iconst (v := (1 : Int32)) hx hb dL_law_323 (by decide) ?_
  refine lv_iadd hx hb dL_law_324 ?_
  refine va_sld hx hb hX hbl hbA hS (si_in (k := 1) (by omega) hL i_k1) dL_law_325 ?_
  refine mwV (ci := 7) (A0 := A) (As := [.int (xs (nI n + 1).toNatClampNeg)]) (rest := []) (W1 := wO cy oa (oV f C2.1 C2.2.1) (wSp cy xa sa sb tr na ka C2.2.2 ++ wMo cy a0 a1 a2 a3 a4 a5 a6 mo)) (W2 := wO cy oa (oV f C2.1 C2.2.1) (wSp cy xa sa sb tr na ka C2.2.2 ++ wMo cy a0 a1 a2 a3 a4 a5 a6 M2.2)) cM hCF gL_law_X9_about rfl hd_X9_about ⟨rfl, rfl, Nat.le_of_ble_eq_true rfl, Nat.le_of_ble_eq_true rfl⟩ hG hP hD hS hA (h_wL rfl h_Mo) rfl rfl (List.mem_cons_of_mem _ (List.mem_append_right _ (List.mem_of_getElem? g_Mo_0))) rfl hl.1 rfl (Nat.le_of_ble_eq_true rfl) dL_law_326 ⟨hc, hs⟩ (fun H locs hP hD hS => ?_)
  refine lv_istore (lv' := (6, .int M2.1) :: (5, .int (mR M2.2)) :: [(0, .ref b), (1, .ref (xa 0)), (2, .ref a0), (3, .ref oa), (4, .int (nI n))]) hx hb dL_law_329 hl (by decide) rfl (fun ls hl => ?_)
  refine lv_aload_n hx hb dL_law_331 rfl (lv_at hl 4 rfl) ?_
  refine rwV (ci := 7) (As := []) (rest := []) (W1 := wO cy oa (oV f C2.1 C2.2.1) (wSp cy xa sa sb tr na ka C2.2.2 ++ wMo cy a0 a1 a2 a3 a4 a5 a6 M2.2)) ((c_X9_thrown l D cy a0 a1 a2 a3 a4 a5 a6 M2.2).ctx (r := wO cy oa (oV f C2.1 C2.2.1) (wSp cy xa sa sb tr na ka C2.2.2)) wO_app2) hCF gL_law_X9_thrown rfl hd_X9_thrown ⟨rfl, rfl, Nat.le_of_ble_eq_true rfl, Nat.le_of_ble_eq_true rfl⟩ hG hP rfl rfl (List.mem_cons_of_mem _ (List.mem_append_right _ (List.mem_of_getElem? g_Mo_0))) rfl hl.1 rfl (Nat.le_of_ble_eq_true rfl) dL_law_332 ⟨hc, hs⟩ ?_
  refine lv_iload hx hb dL_law_335 (lv_at hl 1 rfl) ?_
  refine lv_icmp_eq (tgt := 342) hx hb dL_law_337 (by decide) (fun _ => ?_) (fun q => absurd rfl q)
  refine lv_iload hx hb dL_law_342 (lv_at hl 1 rfl) ?_
  refine lv_if_ne (tgt := 359) hx hb dL_law_344 (by decide) (fun _ => ?_) (fun k0 => ?_)
  · refine lv_goto (tgt := 2164) hx hb dL_law_359 (by decide) ?_
    exact kk _ _ _ _ _ _ (kl_sub hl) ag.1 hP hD hS
  refine lv_aload_n hx hb dL_law_347 rfl (lv_at hl 5 rfl) ?_
  refine lv_iconst (v := (0 : Int32)) hx hb dL_law_348 (by decide) ?_
  refine va_lald hx hb hG.1 hP 0 3 rfl rfl (bd_of (by decide) (by decide)) dL_law_349 ?_
  refine lv_iload hx hb dL_law_350 (lv_at hl 0 rfl) ?_
  refine lv_i2l hx hb dL_law_352 rfl ?_
  refine W.lcmp hx hb dL_law_353 ?_
  have av := ag_v ag nz_ec k0
  refine lv_if_eq (tgt := 359) hx hb dL_law_354 (by decide) (fun _ => ?_) (fun q => absurd (lg_same ((oV_get av.1).trans (congrArg Int32.toInt64 av.2))) q)
  refine lv_goto (tgt := 2164) hx hb dL_law_359 (by decide) ?_
  exact kk _ _ _ _ _ _ (kl_sub hl) ag.1 hP hD hS
set_option maxRecDepth 20000 in
theorem w_unit {p : Program} {l : Launch} {e : Env} {s : State} {m : MethodId} {below : List Frame} {meth : Method} {c : Code} {b L : Nat} {xs : Nat → Int32} {D : va_G} {cy : Nat → ClassId} {t : FxA} {A : Nat → Prop} {Q : State → Prop} {xa sa sb tr na : Nat → Nat} {ka : Nat → Nat → Nat} {a0 a1 a2 a3 a4 a5 a6 oa : Nat} (C0 : LC p l s m meth c b L xs D cy t A) {n : Nat} (hn : n + 5 ≤ L) (hL : L ≤ 2560) {cells slots : Nat} (hc : cells + 1 ≤ 601024) (hs : slots + 6 ≤ 7293034) {T : Int} (hT0 : 100000 ≤ T) (hT : T ≤ 1000000) {H : Heap} {locs : List Loc} {ls : Array Slot} {z : SpT} {mo : MoT} {f : Nat → Int64}
    (hl : lv_has ls 7 [(0, .ref b), (1, .ref (xa 0)), (2, .ref a0), (3, .ref oa), (4, .int (nI n))]) (h : PR T z mo) (hP : va_P D vwCl (wO cy oa f (wSp cy xa sa sb tr na ka z ++ wMo cy a0 a1 a2 a3 a4 a5 a6 mo)) H) (hD : va_D A (wO cy oa f (wSp cy xa sa sb tr na ka z ++ wMo cy a0 a1 a2 a3 a4 a5 a6 mo))) (hS : va_S A s.heap H locs)
    (kk : ∀ (ls : Array Slot) (H : Heap) (locs : List Loc) (z : SpT) (mo : MoT) (f : Nat → Int64), lv_has ls 7 [(0, .ref b), (1, .ref (xa 0)), (2, .ref a0), (3, .ref oa), (4, .int (nI n))] → PR (T + 99) z mo → va_P D vwCl (wO cy oa f (wSp cy xa sa sb tr na ka z ++ wMo cy a0 a1 a2 a3 a4 a5 a6 mo)) H → va_D A (wO cy oa f (wSp cy xa sa sb tr na ka z ++ wMo cy a0 a1 a2 a3 a4 a5 a6 mo)) → va_S A s.heap H locs → Wx p l e room_1 s m #[Value.ref b] below meth c H locs (cells + 1) (slots + 6) Q (F0 m 2164 ls [])) : Wx p l e room_1 s m #[Value.ref b] below meth c H locs cells slots Q (F0 m 362 ls []) := by
  obtain ⟨hx, hb, hCF, hG, hF, hX, hbl, hbA, hA, hl0, hown⟩ := C0
  refine lv_aload_n hx hb dL_law_362 rfl (lv_at hl 1 rfl) ?_
  refine lv_aload_n hx hb dL_law_363 rfl (lv_at hl 0 rfl) ?_
  refine lv_iload hx hb dL_law_364 (lv_at hl 4 rfl) ?_
  refine lv_iconst (v := (1 : Int32)) hx hb dL_law_366 (by decide) ?_
  refine lv_iadd hx hb dL_law_367 ?_
  refine va_sld hx hb hX hbl hbA hS (si_in (k := 1) (by omega) hL i_k1) dL_law_368 ?_
  refine lv_aload_n hx hb dL_law_369 rfl (lv_at hl 0 rfl) ?_
  refine lv_iload hx hb dL_law_370 (lv_at hl 4 rfl) ?_
  refine lv_iconst (v := (2 : Int32)) hx hb dL_law_372 (by decide) ?_
  refine lv_iadd hx hb dL_law_373 ?_
  refine va_sld hx hb hX hbl hbA hS (si_in (k := 2) (by omega) hL i_k2) dL_law_374 ?_
  refine lv_aload_n hx hb dL_law_375 rfl (lv_at hl 3 rfl) ?_
  have ag := ag_unit (x1 := (xs (nI n + 1).toNatClampNeg)) (x2 := (xs (nI n + 2).toNatClampNeg)) h
  have cL := (c_L_unit l hl0 D cy t xa sa sb tr na ka oa f h (xs (nI n + 1).toNatClampNeg) (xs (nI n + 2).toNatClampNeg) (ag_k ag)).ctx (r := wMo cy a0 a1 a2 a3 a4 a5 a6 mo) wO_app wO_app
  have cM := ((c_X9_unit l D cy a0 a1 a2 a3 a4 a5 a6 mo (xs (nI n + 1).toNatClampNeg) (xs (nI n + 2).toNatClampNeg) h.ro).ctx (r := wO cy oa (oV f (m_X8_unit z (xs (nI n + 1).toNatClampNeg) (xs (nI n + 2).toNatClampNeg)).1 (m_X8_unit z (xs (nI n + 1).toNatClampNeg) (xs (nI n + 2).toNatClampNeg)).2.1) (wSp cy xa sa sb tr na ka (m_X8_unit z (xs (nI n + 1).toNatClampNeg) (xs (nI n + 2).toNatClampNeg)).2.2)) wO_app2 wO_app2)
  generalize m_X8_unit z (xs (nI n + 1).toNatClampNeg) (xs (nI n + 2).toNatClampNeg) = C2 at *
  generalize m_X9_unit mo (xs (nI n + 1).toNatClampNeg) (xs (nI n + 2).toNatClampNeg) = M2 at *
  refine hxS (A0 := A) (As := [.ref (xa 0), .int (xs (nI n + 1).toNatClampNeg), .int (xs (nI n + 2).toNatClampNeg), .ref oa]) (rest := []) (W1 := wO cy oa f (wSp cy xa sa sb tr na ka z ++ wMo cy a0 a1 a2 a3 a4 a5 a6 mo)) (W2 := wO cy oa (oV f C2.1 C2.2.1) (wSp cy xa sa sb tr na ka C2.2.2 ++ wMo cy a0 a1 a2 a3 a4 a5 a6 mo)) cL hCF gL_law_L_unit rfl hq_L_unit ⟨Nat.le_of_ble_eq_true rfl, Nat.le_of_ble_eq_true rfl⟩ hG hF hP hD hS hA (h_wL h_Sp rfl) rfl hl.1 rfl (Nat.le_of_ble_eq_true rfl) dL_law_376 ⟨hc, hs⟩ (fun H locs hP hD hS => ?_)
  refine lv_istore (lv' := (5, .int (mR M2.2)) :: [(0, .ref b), (1, .ref (xa 0)), (2, .ref a0), (3, .ref oa), (4, .int (nI n))]) hx hb dL_law_379 hl (by decide) rfl (fun ls hl => ?_)
  refine lv_aload_n hx hb dL_law_381 rfl (lv_at hl 3 rfl) ?_
  refine lv_aload_n hx hb dL_law_382 rfl (lv_at hl 1 rfl) ?_
  refine lv_iload hx hb dL_law_383 (lv_at hl 5 rfl) ?_
  refine lv_iconst (v := (1 : Int32)) hx hb dL_law_385 (by decide) ?_
  refine lv_iadd hx hb dL_law_386 ?_
  refine va_sld hx hb hX hbl hbA hS (si_in (k := 1) (by omega) hL i_k1) dL_law_387 ?_
  refine lv_aload_n hx hb dL_law_388 rfl (lv_at hl 1 rfl) ?_
  refine lv_iload hx hb dL_law_389 (lv_at hl 5 rfl) ?_
  refine lv_iconst (v := (2 : Int32)) hx hb dL_law_391 (by decide) ?_
  refine lv_iadd hx hb dL_law_392 ?_
  refine va_sld hx hb hX hbl hbA hS (si_in (k := 2) (by omega) hL i_k2) dL_law_393 ?_
  refine mwV (ci := 7) (A0 := A) (As := [.int (xs (nI n + 1).toNatClampNeg), .int (xs (nI n + 2).toNatClampNeg)]) (rest := []) (W1 := wO cy oa (oV f C2.1 C2.2.1) (wSp cy xa sa sb tr na ka C2.2.2 ++ wMo cy a0 a1 a2 a3 a4 a5 a6 mo)) (W2 := wO cy oa (oV f C2.1 C2.2.1) (wSp cy xa sa sb tr na ka C2.2.2 ++ wMo cy a0 a1 a2 a3 a4 a5 a6 M2.2)) cM hCF gL_law_X9_unit rfl hd_X9_unit ⟨rfl, rfl, Nat.le_of_ble_eq_true rfl, Nat.le_of_ble_eq_true rfl⟩ hG hP hD hS hA (h_wL rfl h_Mo) rfl rfl (List.mem_cons_of_mem _ (List.mem_append_right _ (List.mem_of_getElem? g_Mo_0))) rfl hl.1 rfl (Nat.le_of_ble_eq_true rfl) dL_law_394 ⟨hc, hs⟩ (fun H locs hP hD hS => ?_)
  refine lv_istore (lv' := (6, .int M2.1) :: (5, .int (mR M2.2)) :: [(0, .ref b), (1, .ref (xa 0)), (2, .ref a0), (3, .ref oa), (4, .int (nI n))]) hx hb dL_law_397 hl (by decide) rfl (fun ls hl => ?_)
  refine lv_aload_n hx hb dL_law_399 rfl (lv_at hl 4 rfl) ?_
  refine rwV (ci := 7) (As := []) (rest := []) (W1 := wO cy oa (oV f C2.1 C2.2.1) (wSp cy xa sa sb tr na ka C2.2.2 ++ wMo cy a0 a1 a2 a3 a4 a5 a6 M2.2)) ((c_X9_thrown l D cy a0 a1 a2 a3 a4 a5 a6 M2.2).ctx (r := wO cy oa (oV f C2.1 C2.2.1) (wSp cy xa sa sb tr na ka C2.2.2)) wO_app2) hCF gL_law_X9_thrown rfl hd_X9_thrown ⟨rfl, rfl, Nat.le_of_ble_eq_true rfl, Nat.le_of_ble_eq_true rfl⟩ hG hP rfl rfl (List.mem_cons_of_mem _ (List.mem_append_right _ (List.mem_of_getElem? g_Mo_0))) rfl hl.1 rfl (Nat.le_of_ble_eq_true rfl) dL_law_400 ⟨hc, hs⟩ ?_
  refine lv_iload hx hb dL_law_403 (lv_at hl 1 rfl) ?_
  refine lv_icmp_eq (tgt := 410) hx hb dL_law_405 (by decide) (fun _ => ?_) (fun q => absurd rfl q)
  refine lv_iload hx hb dL_law_410 (lv_at hl 1 rfl) ?_
  refine lv_if_ne (tgt := 427) hx hb dL_law_412 (by decide) (fun _ => ?_) (fun k0 => ?_)
  · refine lv_goto (tgt := 2164) hx hb dL_law_427 (by decide) ?_
    exact kk _ _ _ _ _ _ (kl_sub hl) ag.1 hP hD hS
  refine lv_aload_n hx hb dL_law_415 rfl (lv_at hl 5 rfl) ?_
  refine lv_iconst (v := (0 : Int32)) hx hb dL_law_416 (by decide) ?_
  refine va_lald hx hb hG.1 hP 0 3 rfl rfl (bd_of (by decide) (by decide)) dL_law_417 ?_
  refine lv_iload hx hb dL_law_418 (lv_at hl 0 rfl) ?_
  refine lv_i2l hx hb dL_law_420 rfl ?_
  refine W.lcmp hx hb dL_law_421 ?_
  have av := ag_v ag nz_ed k0
  refine lv_if_eq (tgt := 427) hx hb dL_law_422 (by decide) (fun _ => ?_) (fun q => absurd (lg_same ((oV_get av.1).trans (congrArg Int32.toInt64 av.2))) q)
  refine lv_goto (tgt := 2164) hx hb dL_law_427 (by decide) ?_
  exact kk _ _ _ _ _ _ (kl_sub hl) ag.1 hP hD hS
set_option maxRecDepth 20000 in
theorem w_holder {p : Program} {l : Launch} {e : Env} {s : State} {m : MethodId} {below : List Frame} {meth : Method} {c : Code} {b L : Nat} {xs : Nat → Int32} {D : va_G} {cy : Nat → ClassId} {t : FxA} {A : Nat → Prop} {Q : State → Prop} {xa sa sb tr na : Nat → Nat} {ka : Nat → Nat → Nat} {a0 a1 a2 a3 a4 a5 a6 oa : Nat} (C0 : LC p l s m meth c b L xs D cy t A) {n : Nat} (hn : n + 5 ≤ L) (hL : L ≤ 2560) {cells slots : Nat} (hc : cells + 1 ≤ 601024) (hs : slots + 6 ≤ 7293034) {T : Int} (hT0 : 100000 ≤ T) (hT : T ≤ 1000000) {H : Heap} {locs : List Loc} {ls : Array Slot} {z : SpT} {mo : MoT} {f : Nat → Int64}
    (hl : lv_has ls 7 [(0, .ref b), (1, .ref (xa 0)), (2, .ref a0), (3, .ref oa), (4, .int (nI n))]) (h : PR T z mo) (hP : va_P D vwCl (wO cy oa f (wSp cy xa sa sb tr na ka z ++ wMo cy a0 a1 a2 a3 a4 a5 a6 mo)) H) (hD : va_D A (wO cy oa f (wSp cy xa sa sb tr na ka z ++ wMo cy a0 a1 a2 a3 a4 a5 a6 mo))) (hS : va_S A s.heap H locs)
    (kk : ∀ (ls : Array Slot) (H : Heap) (locs : List Loc) (z : SpT) (mo : MoT) (f : Nat → Int64), lv_has ls 7 [(0, .ref b), (1, .ref (xa 0)), (2, .ref a0), (3, .ref oa), (4, .int (nI n))] → PR (T + 99) z mo → va_P D vwCl (wO cy oa f (wSp cy xa sa sb tr na ka z ++ wMo cy a0 a1 a2 a3 a4 a5 a6 mo)) H → va_D A (wO cy oa f (wSp cy xa sa sb tr na ka z ++ wMo cy a0 a1 a2 a3 a4 a5 a6 mo)) → va_S A s.heap H locs → Wx p l e room_1 s m #[Value.ref b] below meth c H locs (cells + 1) (slots + 6) Q (F0 m 2164 ls [])) : Wx p l e room_1 s m #[Value.ref b] below meth c H locs cells slots Q (F0 m 430 ls []) := by
  obtain ⟨hx, hb, hCF, hG, hF, hX, hbl, hbA, hA, hl0, hown⟩ := C0
  refine lv_aload_n hx hb dL_law_430 rfl (lv_at hl 1 rfl) ?_
  refine lv_aload_n hx hb dL_law_431 rfl (lv_at hl 0 rfl) ?_
  refine lv_iload hx hb dL_law_432 (lv_at hl 4 rfl) ?_
  refine lv_iconst (v := (1 : Int32)) hx hb dL_law_434 (by decide) ?_
  refine lv_iadd hx hb dL_law_435 ?_
  refine va_sld hx hb hX hbl hbA hS (si_in (k := 1) (by omega) hL i_k1) dL_law_436 ?_
  refine lv_aload_n hx hb dL_law_437 rfl (lv_at hl 0 rfl) ?_
  refine lv_iload hx hb dL_law_438 (lv_at hl 4 rfl) ?_
  refine lv_iconst (v := (2 : Int32)) hx hb dL_law_440 (by decide) ?_
  refine lv_iadd hx hb dL_law_441 ?_
  refine va_sld hx hb hX hbl hbA hS (si_in (k := 2) (by omega) hL i_k2) dL_law_442 ?_
  refine lv_aload_n hx hb dL_law_443 rfl (lv_at hl 3 rfl) ?_
  have ag := ag_holder (x1 := (xs (nI n + 1).toNatClampNeg)) (x2 := (xs (nI n + 2).toNatClampNeg)) h
  have cL := (c_L_holder l hl0 D cy t xa sa sb tr na ka oa f h (xs (nI n + 1).toNatClampNeg) (xs (nI n + 2).toNatClampNeg) (ag_k ag)).ctx (r := wMo cy a0 a1 a2 a3 a4 a5 a6 mo) wO_app wO_app
  have cM := ((c_X9_holder l D cy a0 a1 a2 a3 a4 a5 a6 mo (xs (nI n + 1).toNatClampNeg) (xs (nI n + 2).toNatClampNeg) h.ro).ctx (r := wO cy oa (oV f (m_X8_holder z (xs (nI n + 1).toNatClampNeg) (xs (nI n + 2).toNatClampNeg)).1 (m_X8_holder z (xs (nI n + 1).toNatClampNeg) (xs (nI n + 2).toNatClampNeg)).2.1) (wSp cy xa sa sb tr na ka (m_X8_holder z (xs (nI n + 1).toNatClampNeg) (xs (nI n + 2).toNatClampNeg)).2.2)) wO_app2 wO_app2)
  generalize m_X8_holder z (xs (nI n + 1).toNatClampNeg) (xs (nI n + 2).toNatClampNeg) = C2 at *
  generalize m_X9_holder mo (xs (nI n + 1).toNatClampNeg) (xs (nI n + 2).toNatClampNeg) = M2 at *
  refine hxS (A0 := A) (As := [.ref (xa 0), .int (xs (nI n + 1).toNatClampNeg), .int (xs (nI n + 2).toNatClampNeg), .ref oa]) (rest := []) (W1 := wO cy oa f (wSp cy xa sa sb tr na ka z ++ wMo cy a0 a1 a2 a3 a4 a5 a6 mo)) (W2 := wO cy oa (oV f C2.1 C2.2.1) (wSp cy xa sa sb tr na ka C2.2.2 ++ wMo cy a0 a1 a2 a3 a4 a5 a6 mo)) cL hCF gL_law_L_holder rfl hq_L_holder ⟨Nat.le_of_ble_eq_true rfl, Nat.le_of_ble_eq_true rfl⟩ hG hF hP hD hS hA (h_wL h_Sp rfl) rfl hl.1 rfl (Nat.le_of_ble_eq_true rfl) dL_law_444 ⟨hc, hs⟩ (fun H locs hP hD hS => ?_)
  refine lv_istore (lv' := (5, .int (mR M2.2)) :: [(0, .ref b), (1, .ref (xa 0)), (2, .ref a0), (3, .ref oa), (4, .int (nI n))]) hx hb dL_law_447 hl (by decide) rfl (fun ls hl => ?_)
  refine lv_aload_n hx hb dL_law_449 rfl (lv_at hl 3 rfl) ?_
  refine lv_aload_n hx hb dL_law_450 rfl (lv_at hl 1 rfl) ?_
  refine lv_iload hx hb dL_law_451 (lv_at hl 5 rfl) ?_
  refine lv_iconst (v := (1 : Int32)) hx hb dL_law_453 (by decide) ?_
  refine lv_iadd hx hb dL_law_454 ?_
  refine va_sld hx hb hX hbl hbA hS (si_in (k := 1) (by omega) hL i_k1) dL_law_455 ?_
  refine lv_aload_n hx hb dL_law_456 rfl (lv_at hl 1 rfl) ?_
  refine lv_iload hx hb dL_law_457 (lv_at hl 5 rfl) ?_
  refine lv_iconst (v := (2 : Int32)) hx hb dL_law_459 (by decide) ?_
  refine lv_iadd hx hb dL_law_460 ?_
  refine va_sld hx hb hX hbl hbA hS (si_in (k := 2) (by omega) hL i_k2) dL_law_461 ?_
  refine mwV (ci := 7) (A0 := A) (As := [.int (xs (nI n + 1).toNatClampNeg), .int (xs (nI n + 2).toNatClampNeg)]) (rest := []) (W1 := wO cy oa (oV f C2.1 C2.2.1) (wSp cy xa sa sb tr na ka C2.2.2 ++ wMo cy a0 a1 a2 a3 a4 a5 a6 mo)) (W2 := wO cy oa (oV f C2.1 C2.2.1) (wSp cy xa sa sb tr na ka C2.2.2 ++ wMo cy a0 a1 a2 a3 a4 a5 a6 M2.2)) cM hCF gL_law_X9_holder rfl hd_X9_holder ⟨rfl, rfl, Nat.le_of_ble_eq_true rfl, Nat.le_of_ble_eq_true rfl⟩ hG hP hD hS hA (h_wL rfl h_Mo) rfl rfl (List.mem_cons_of_mem _ (List.mem_append_right _ (List.mem_of_getElem? g_Mo_0))) rfl hl.1 rfl (Nat.le_of_ble_eq_true rfl) dL_law_462 ⟨hc, hs⟩ (fun H locs hP hD hS => ?_)
  refine lv_istore (lv' := (6, .int M2.1) :: (5, .int (mR M2.2)) :: [(0, .ref b), (1, .ref (xa 0)), (2, .ref a0), (3, .ref oa), (4, .int (nI n))]) hx hb dL_law_465 hl (by decide) rfl (fun ls hl => ?_)
  refine lv_aload_n hx hb dL_law_467 rfl (lv_at hl 4 rfl) ?_
  refine rwV (ci := 7) (As := []) (rest := []) (W1 := wO cy oa (oV f C2.1 C2.2.1) (wSp cy xa sa sb tr na ka C2.2.2 ++ wMo cy a0 a1 a2 a3 a4 a5 a6 M2.2)) ((c_X9_thrown l D cy a0 a1 a2 a3 a4 a5 a6 M2.2).ctx (r := wO cy oa (oV f C2.1 C2.2.1) (wSp cy xa sa sb tr na ka C2.2.2)) wO_app2) hCF gL_law_X9_thrown rfl hd_X9_thrown ⟨rfl, rfl, Nat.le_of_ble_eq_true rfl, Nat.le_of_ble_eq_true rfl⟩ hG hP rfl rfl (List.mem_cons_of_mem _ (List.mem_append_right _ (List.mem_of_getElem? g_Mo_0))) rfl hl.1 rfl (Nat.le_of_ble_eq_true rfl) dL_law_468 ⟨hc, hs⟩ ?_
  refine lv_iload hx hb dL_law_471 (lv_at hl 1 rfl) ?_
  refine lv_icmp_eq (tgt := 478) hx hb dL_law_473 (by decide) (fun _ => ?_) (fun q => absurd rfl q)
  refine lv_iload hx hb dL_law_478 (lv_at hl 1 rfl) ?_
  refine lv_if_ne (tgt := 495) hx hb dL_law_480 (by decide) (fun _ => ?_) (fun k0 => ?_)
  · refine lv_goto (tgt := 2164) hx hb dL_law_495 (by decide) ?_
    exact kk _ _ _ _ _ _ (kl_sub hl) ag.1 hP hD hS
  refine lv_aload_n hx hb dL_law_483 rfl (lv_at hl 5 rfl) ?_
  refine lv_iconst (v := (0 : Int32)) hx hb dL_law_484 (by decide) ?_
  refine va_lald hx hb hG.1 hP 0 3 rfl rfl (bd_of (by decide) (by decide)) dL_law_485 ?_
  refine lv_iload hx hb dL_law_486 (lv_at hl 0 rfl) ?_
  refine lv_i2l hx hb dL_law_488 rfl ?_
  refine W.lcmp hx hb dL_law_489 ?_
  have av := ag_v ag nz_ed k0
  refine lv_if_eq (tgt := 495) hx hb dL_law_490 (by decide) (fun _ => ?_) (fun q => absurd (lg_same ((oV_get av.1).trans (congrArg Int32.toInt64 av.2))) q)
  refine lv_goto (tgt := 2164) hx hb dL_law_495 (by decide) ?_
  exact kk _ _ _ _ _ _ (kl_sub hl) ag.1 hP hD hS
set_option maxRecDepth 20000 in
theorem w_owed {p : Program} {l : Launch} {e : Env} {s : State} {m : MethodId} {below : List Frame} {meth : Method} {c : Code} {b L : Nat} {xs : Nat → Int32} {D : va_G} {cy : Nat → ClassId} {t : FxA} {A : Nat → Prop} {Q : State → Prop} {xa sa sb tr na : Nat → Nat} {ka : Nat → Nat → Nat} {a0 a1 a2 a3 a4 a5 a6 oa : Nat} (C0 : LC p l s m meth c b L xs D cy t A) {n : Nat} (hn : n + 5 ≤ L) (hL : L ≤ 2560) {cells slots : Nat} (hc : cells + 1 ≤ 601024) (hs : slots + 6 ≤ 7293034) {T : Int} (hT0 : 100000 ≤ T) (hT : T ≤ 1000000) {H : Heap} {locs : List Loc} {ls : Array Slot} {z : SpT} {mo : MoT} {f : Nat → Int64}
    (hl : lv_has ls 7 [(0, .ref b), (1, .ref (xa 0)), (2, .ref a0), (3, .ref oa), (4, .int (nI n))]) (h : PR T z mo) (hP : va_P D vwCl (wO cy oa f (wSp cy xa sa sb tr na ka z ++ wMo cy a0 a1 a2 a3 a4 a5 a6 mo)) H) (hD : va_D A (wO cy oa f (wSp cy xa sa sb tr na ka z ++ wMo cy a0 a1 a2 a3 a4 a5 a6 mo))) (hS : va_S A s.heap H locs)
    (kk : ∀ (ls : Array Slot) (H : Heap) (locs : List Loc) (z : SpT) (mo : MoT) (f : Nat → Int64), lv_has ls 7 [(0, .ref b), (1, .ref (xa 0)), (2, .ref a0), (3, .ref oa), (4, .int (nI n))] → PR (T + 99) z mo → va_P D vwCl (wO cy oa f (wSp cy xa sa sb tr na ka z ++ wMo cy a0 a1 a2 a3 a4 a5 a6 mo)) H → va_D A (wO cy oa f (wSp cy xa sa sb tr na ka z ++ wMo cy a0 a1 a2 a3 a4 a5 a6 mo)) → va_S A s.heap H locs → Wx p l e room_1 s m #[Value.ref b] below meth c H locs (cells + 1) (slots + 6) Q (F0 m 2164 ls [])) : Wx p l e room_1 s m #[Value.ref b] below meth c H locs cells slots Q (F0 m 498 ls []) := by
  obtain ⟨hx, hb, hCF, hG, hF, hX, hbl, hbA, hA, hl0, hown⟩ := C0
  refine lv_aload_n hx hb dL_law_498 rfl (lv_at hl 1 rfl) ?_
  refine lv_aload_n hx hb dL_law_499 rfl (lv_at hl 0 rfl) ?_
  refine lv_iload hx hb dL_law_500 (lv_at hl 4 rfl) ?_
  refine lv_iconst (v := (1 : Int32)) hx hb dL_law_502 (by decide) ?_
  refine lv_iadd hx hb dL_law_503 ?_
  refine va_sld hx hb hX hbl hbA hS (si_in (k := 1) (by omega) hL i_k1) dL_law_504 ?_
  refine lv_aload_n hx hb dL_law_505 rfl (lv_at hl 0 rfl) ?_
  refine lv_iload hx hb dL_law_506 (lv_at hl 4 rfl) ?_
  refine lv_iconst (v := (2 : Int32)) hx hb dL_law_508 (by decide) ?_
  refine lv_iadd hx hb dL_law_509 ?_
  refine va_sld hx hb hX hbl hbA hS (si_in (k := 2) (by omega) hL i_k2) dL_law_510 ?_
  refine lv_aload_n hx hb dL_law_511 rfl (lv_at hl 0 rfl) ?_
  refine lv_iload hx hb dL_law_512 (lv_at hl 4 rfl) ?_
  refine lv_iconst (v := (3 : Int32)) hx hb dL_law_514 (by decide) ?_
  refine lv_iadd hx hb dL_law_515 ?_
  refine va_sld hx hb hX hbl hbA hS (si_in (k := 3) (by omega) hL i_k3) dL_law_516 ?_
  refine lv_aload_n hx hb dL_law_517 rfl (lv_at hl 0 rfl) ?_
  refine lv_iload hx hb dL_law_518 (lv_at hl 4 rfl) ?_
  refine lv_iconst (v := (4 : Int32)) hx hb dL_law_520 (by decide) ?_
  refine lv_iadd hx hb dL_law_521 ?_
  refine va_sld hx hb hX hbl hbA hS (si_in (k := 4) (by omega) hL i_k4) dL_law_522 ?_
  refine lv_aload_n hx hb dL_law_523 rfl (lv_at hl 3 rfl) ?_
  have ag := ag_owed (x1 := (xs (nI n + 1).toNatClampNeg)) (x2 := (xs (nI n + 2).toNatClampNeg)) (x3 := (xs (nI n + 3).toNatClampNeg)) (x4 := (xs (nI n + 4).toNatClampNeg)) h
  have cL := (c_L_owed l hl0 D cy t xa sa sb tr na ka oa f h (xs (nI n + 1).toNatClampNeg) (xs (nI n + 2).toNatClampNeg) (xs (nI n + 3).toNatClampNeg) (xs (nI n + 4).toNatClampNeg) (ag_k ag)).ctx (r := wMo cy a0 a1 a2 a3 a4 a5 a6 mo) wO_app wO_app
  have cM := ((c_X9_owed l D cy a0 a1 a2 a3 a4 a5 a6 mo (xs (nI n + 1).toNatClampNeg) (xs (nI n + 2).toNatClampNeg) (xs (nI n + 3).toNatClampNeg) (xs (nI n + 4).toNatClampNeg)).ctx (r := wO cy oa (oV f (m_X8_owed z (xs (nI n + 1).toNatClampNeg) (xs (nI n + 2).toNatClampNeg) (xs (nI n + 3).toNatClampNeg) (xs (nI n + 4).toNatClampNeg)).1 (m_X8_owed z (xs (nI n + 1).toNatClampNeg) (xs (nI n + 2).toNatClampNeg) (xs (nI n + 3).toNatClampNeg) (xs (nI n + 4).toNatClampNeg)).2.1) (wSp cy xa sa sb tr na ka (m_X8_owed z (xs (nI n + 1).toNatClampNeg) (xs (nI n + 2).toNatClampNeg) (xs (nI n + 3).toNatClampNeg) (xs (nI n + 4).toNatClampNeg)).2.2)) wO_app2 wO_app2)
  generalize m_X8_owed z (xs (nI n + 1).toNatClampNeg) (xs (nI n + 2).toNatClampNeg) (xs (nI n + 3).toNatClampNeg) (xs (nI n + 4).toNatClampNeg) = C2 at *
  generalize m_X9_owed mo (xs (nI n + 1).toNatClampNeg) (xs (nI n + 2).toNatClampNeg) (xs (nI n + 3).toNatClampNeg) (xs (nI n + 4).toNatClampNeg) = M2 at *
  refine hxS (A0 := A) (As := [.ref (xa 0), .int (xs (nI n + 1).toNatClampNeg), .int (xs (nI n + 2).toNatClampNeg), .int (xs (nI n + 3).toNatClampNeg), .int (xs (nI n + 4).toNatClampNeg), .ref oa]) (rest := []) (W1 := wO cy oa f (wSp cy xa sa sb tr na ka z ++ wMo cy a0 a1 a2 a3 a4 a5 a6 mo)) (W2 := wO cy oa (oV f C2.1 C2.2.1) (wSp cy xa sa sb tr na ka C2.2.2 ++ wMo cy a0 a1 a2 a3 a4 a5 a6 mo)) cL hCF gL_law_L_owed rfl hq_L_owed ⟨Nat.le_of_ble_eq_true rfl, Nat.le_of_ble_eq_true rfl⟩ hG hF hP hD hS hA (h_wL h_Sp rfl) rfl hl.1 rfl (Nat.le_of_ble_eq_true rfl) dL_law_524 ⟨hc, hs⟩ (fun H locs hP hD hS => ?_)
  refine lv_istore (lv' := (5, .int (mR M2.2)) :: [(0, .ref b), (1, .ref (xa 0)), (2, .ref a0), (3, .ref oa), (4, .int (nI n))]) hx hb dL_law_527 hl (by decide) rfl (fun ls hl => ?_)
  refine lv_aload_n hx hb dL_law_529 rfl (lv_at hl 3 rfl) ?_
  refine lv_aload_n hx hb dL_law_530 rfl (lv_at hl 1 rfl) ?_
  refine lv_iload hx hb dL_law_531 (lv_at hl 5 rfl) ?_
  refine lv_iconst (v := (1 : Int32)) hx hb dL_law_533 (by decide) ?_
  refine lv_iadd hx hb dL_law_534 ?_
  refine va_sld hx hb hX hbl hbA hS (si_in (k := 1) (by omega) hL i_k1) dL_law_535 ?_
  refine lv_aload_n hx hb dL_law_536 rfl (lv_at hl 1 rfl) ?_
  refine lv_iload hx hb dL_law_537 (lv_at hl 5 rfl) ?_
  refine lv_iconst (v := (2 : Int32)) hx hb dL_law_539 (by decide) ?_
  refine lv_iadd hx hb dL_law_540 ?_
  refine va_sld hx hb hX hbl hbA hS (si_in (k := 2) (by omega) hL i_k2) dL_law_541 ?_
  refine lv_aload_n hx hb dL_law_542 rfl (lv_at hl 1 rfl) ?_
  refine lv_iload hx hb dL_law_543 (lv_at hl 5 rfl) ?_
  refine lv_iconst (v := (3 : Int32)) hx hb dL_law_545 (by decide) ?_
  refine lv_iadd hx hb dL_law_546 ?_
  refine va_sld hx hb hX hbl hbA hS (si_in (k := 3) (by omega) hL i_k3) dL_law_547 ?_
  refine lv_aload_n hx hb dL_law_548 rfl (lv_at hl 1 rfl) ?_
  refine lv_iload hx hb dL_law_549 (lv_at hl 5 rfl) ?_
  refine lv_iconst (v := (4 : Int32)) hx hb dL_law_551 (by decide) ?_
  refine lv_iadd hx hb dL_law_552 ?_
  refine va_sld hx hb hX hbl hbA hS (si_in (k := 4) (by omega) hL i_k4) dL_law_553 ?_
  refine mwV (ci := 7) (A0 := A) (As := [.int (xs (nI n + 1).toNatClampNeg), .int (xs (nI n + 2).toNatClampNeg), .int (xs (nI n + 3).toNatClampNeg), .int (xs (nI n + 4).toNatClampNeg)]) (rest := []) (W1 := wO cy oa (oV f C2.1 C2.2.1) (wSp cy xa sa sb tr na ka C2.2.2 ++ wMo cy a0 a1 a2 a3 a4 a5 a6 mo)) (W2 := wO cy oa (oV f C2.1 C2.2.1) (wSp cy xa sa sb tr na ka C2.2.2 ++ wMo cy a0 a1 a2 a3 a4 a5 a6 M2.2)) cM hCF gL_law_X9_owed rfl hd_X9_owed ⟨rfl, rfl, Nat.le_of_ble_eq_true rfl, Nat.le_of_ble_eq_true rfl⟩ hG hP hD hS hA (h_wL rfl h_Mo) rfl rfl (List.mem_cons_of_mem _ (List.mem_append_right _ (List.mem_of_getElem? g_Mo_0))) rfl hl.1 rfl (Nat.le_of_ble_eq_true rfl) dL_law_554 ⟨hc, hs⟩ (fun H locs hP hD hS => ?_)
  refine lv_istore (lv' := (6, .int M2.1) :: (5, .int (mR M2.2)) :: [(0, .ref b), (1, .ref (xa 0)), (2, .ref a0), (3, .ref oa), (4, .int (nI n))]) hx hb dL_law_557 hl (by decide) rfl (fun ls hl => ?_)
  refine lv_aload_n hx hb dL_law_559 rfl (lv_at hl 4 rfl) ?_
  refine rwV (ci := 7) (As := []) (rest := []) (W1 := wO cy oa (oV f C2.1 C2.2.1) (wSp cy xa sa sb tr na ka C2.2.2 ++ wMo cy a0 a1 a2 a3 a4 a5 a6 M2.2)) ((c_X9_thrown l D cy a0 a1 a2 a3 a4 a5 a6 M2.2).ctx (r := wO cy oa (oV f C2.1 C2.2.1) (wSp cy xa sa sb tr na ka C2.2.2)) wO_app2) hCF gL_law_X9_thrown rfl hd_X9_thrown ⟨rfl, rfl, Nat.le_of_ble_eq_true rfl, Nat.le_of_ble_eq_true rfl⟩ hG hP rfl rfl (List.mem_cons_of_mem _ (List.mem_append_right _ (List.mem_of_getElem? g_Mo_0))) rfl hl.1 rfl (Nat.le_of_ble_eq_true rfl) dL_law_560 ⟨hc, hs⟩ ?_
  refine lv_iload hx hb dL_law_563 (lv_at hl 1 rfl) ?_
  refine lv_icmp_eq (tgt := 570) hx hb dL_law_565 (by decide) (fun _ => ?_) (fun q => absurd rfl q)
  refine lv_iload hx hb dL_law_570 (lv_at hl 1 rfl) ?_
  refine lv_if_ne (tgt := 587) hx hb dL_law_572 (by decide) (fun _ => ?_) (fun k0 => ?_)
  · refine lv_goto (tgt := 2164) hx hb dL_law_587 (by decide) ?_
    exact kk _ _ _ _ _ _ (kl_sub hl) ag.1 hP hD hS
  refine lv_aload_n hx hb dL_law_575 rfl (lv_at hl 5 rfl) ?_
  refine lv_iconst (v := (0 : Int32)) hx hb dL_law_576 (by decide) ?_
  refine va_lald hx hb hG.1 hP 0 3 rfl rfl (bd_of (by decide) (by decide)) dL_law_577 ?_
  refine lv_iload hx hb dL_law_578 (lv_at hl 0 rfl) ?_
  refine lv_i2l hx hb dL_law_580 rfl ?_
  refine W.lcmp hx hb dL_law_581 ?_
  have av := ag_v ag nz_ee k0
  refine lv_if_eq (tgt := 587) hx hb dL_law_582 (by decide) (fun _ => ?_) (fun q => absurd (lg_same ((oV_get av.1).trans (congrArg Int32.toInt64 av.2))) q)
  refine lv_goto (tgt := 2164) hx hb dL_law_587 (by decide) ?_
  exact kk _ _ _ _ _ _ (kl_sub hl) ag.1 hP hD hS
set_option maxRecDepth 20000 in
theorem w_core {p : Program} {l : Launch} {e : Env} {s : State} {m : MethodId} {below : List Frame} {meth : Method} {c : Code} {b L : Nat} {xs : Nat → Int32} {D : va_G} {cy : Nat → ClassId} {t : FxA} {A : Nat → Prop} {Q : State → Prop} {xa sa sb tr na : Nat → Nat} {ka : Nat → Nat → Nat} {a0 a1 a2 a3 a4 a5 a6 oa : Nat} (C0 : LC p l s m meth c b L xs D cy t A) {n : Nat} (hn : n + 5 ≤ L) (hL : L ≤ 2560) {cells slots : Nat} (hc : cells + 1 ≤ 601024) (hs : slots + 6 ≤ 7293034) {T : Int} (hT0 : 100000 ≤ T) (hT : T ≤ 1000000) {H : Heap} {locs : List Loc} {ls : Array Slot} {z : SpT} {mo : MoT} {f : Nat → Int64}
    (hl : lv_has ls 7 [(0, .ref b), (1, .ref (xa 0)), (2, .ref a0), (3, .ref oa), (4, .int (nI n))]) (h : PR T z mo) (hP : va_P D vwCl (wO cy oa f (wSp cy xa sa sb tr na ka z ++ wMo cy a0 a1 a2 a3 a4 a5 a6 mo)) H) (hD : va_D A (wO cy oa f (wSp cy xa sa sb tr na ka z ++ wMo cy a0 a1 a2 a3 a4 a5 a6 mo))) (hS : va_S A s.heap H locs)
    (kk : ∀ (ls : Array Slot) (H : Heap) (locs : List Loc) (z : SpT) (mo : MoT) (f : Nat → Int64), lv_has ls 7 [(0, .ref b), (1, .ref (xa 0)), (2, .ref a0), (3, .ref oa), (4, .int (nI n))] → PR (T + 99) z mo → va_P D vwCl (wO cy oa f (wSp cy xa sa sb tr na ka z ++ wMo cy a0 a1 a2 a3 a4 a5 a6 mo)) H → va_D A (wO cy oa f (wSp cy xa sa sb tr na ka z ++ wMo cy a0 a1 a2 a3 a4 a5 a6 mo)) → va_S A s.heap H locs → Wx p l e room_1 s m #[Value.ref b] below meth c H locs (cells + 1) (slots + 6) Q (F0 m 2164 ls [])) : Wx p l e room_1 s m #[Value.ref b] below meth c H locs cells slots Q (F0 m 590 ls []) := by
  obtain ⟨hx, hb, hCF, hG, hF, hX, hbl, hbA, hA, hl0, hown⟩ := C0
  refine lv_aload_n hx hb dL_law_590 rfl (lv_at hl 1 rfl) ?_
  refine lv_aload_n hx hb dL_law_591 rfl (lv_at hl 0 rfl) ?_
  refine lv_iload hx hb dL_law_592 (lv_at hl 4 rfl) ?_
  refine lv_iconst (v := (1 : Int32)) hx hb dL_law_594 (by decide) ?_
  refine lv_iadd hx hb dL_law_595 ?_
  refine va_sld hx hb hX hbl hbA hS (si_in (k := 1) (by omega) hL i_k1) dL_law_596 ?_
  refine lv_aload_n hx hb dL_law_597 rfl (lv_at hl 0 rfl) ?_
  refine lv_iload hx hb dL_law_598 (lv_at hl 4 rfl) ?_
  refine lv_iconst (v := (2 : Int32)) hx hb dL_law_600 (by decide) ?_
  refine lv_iadd hx hb dL_law_601 ?_
  refine va_sld hx hb hX hbl hbA hS (si_in (k := 2) (by omega) hL i_k2) dL_law_602 ?_
  refine lv_aload_n hx hb dL_law_603 rfl (lv_at hl 0 rfl) ?_
  refine lv_iload hx hb dL_law_604 (lv_at hl 4 rfl) ?_
  refine lv_iconst (v := (3 : Int32)) hx hb dL_law_606 (by decide) ?_
  refine lv_iadd hx hb dL_law_607 ?_
  refine va_sld hx hb hX hbl hbA hS (si_in (k := 3) (by omega) hL i_k3) dL_law_608 ?_
  refine lv_aload_n hx hb dL_law_609 rfl (lv_at hl 3 rfl) ?_
  have ag := ag_core (x1 := (xs (nI n + 1).toNatClampNeg)) (x2 := (xs (nI n + 2).toNatClampNeg)) (x3 := (xs (nI n + 3).toNatClampNeg)) h
  have cL := (c_L_core l hl0 D cy t xa sa sb tr na ka oa f h (xs (nI n + 1).toNatClampNeg) (xs (nI n + 2).toNatClampNeg) (xs (nI n + 3).toNatClampNeg) (ag_k ag)).ctx (r := wMo cy a0 a1 a2 a3 a4 a5 a6 mo) wO_app wO_app
  have cM := ((c_X9_core l D cy a0 a1 a2 a3 a4 a5 a6 mo (xs (nI n + 1).toNatClampNeg) (xs (nI n + 2).toNatClampNeg) (xs (nI n + 3).toNatClampNeg) h.ro).ctx (r := wO cy oa (oV f (m_X8_core z (xs (nI n + 1).toNatClampNeg) (xs (nI n + 2).toNatClampNeg) (xs (nI n + 3).toNatClampNeg)).1 (m_X8_core z (xs (nI n + 1).toNatClampNeg) (xs (nI n + 2).toNatClampNeg) (xs (nI n + 3).toNatClampNeg)).2.1) (wSp cy xa sa sb tr na ka (m_X8_core z (xs (nI n + 1).toNatClampNeg) (xs (nI n + 2).toNatClampNeg) (xs (nI n + 3).toNatClampNeg)).2.2)) wO_app2 wO_app2)
  generalize m_X8_core z (xs (nI n + 1).toNatClampNeg) (xs (nI n + 2).toNatClampNeg) (xs (nI n + 3).toNatClampNeg) = C2 at *
  generalize m_X9_core mo (xs (nI n + 1).toNatClampNeg) (xs (nI n + 2).toNatClampNeg) (xs (nI n + 3).toNatClampNeg) = M2 at *
  refine hxS (A0 := A) (As := [.ref (xa 0), .int (xs (nI n + 1).toNatClampNeg), .int (xs (nI n + 2).toNatClampNeg), .int (xs (nI n + 3).toNatClampNeg), .ref oa]) (rest := []) (W1 := wO cy oa f (wSp cy xa sa sb tr na ka z ++ wMo cy a0 a1 a2 a3 a4 a5 a6 mo)) (W2 := wO cy oa (oV f C2.1 C2.2.1) (wSp cy xa sa sb tr na ka C2.2.2 ++ wMo cy a0 a1 a2 a3 a4 a5 a6 mo)) cL hCF gL_law_L_core rfl hq_L_core ⟨Nat.le_of_ble_eq_true rfl, Nat.le_of_ble_eq_true rfl⟩ hG hF hP hD hS hA (h_wL h_Sp rfl) rfl hl.1 rfl (Nat.le_of_ble_eq_true rfl) dL_law_610 ⟨hc, hs⟩ (fun H locs hP hD hS => ?_)
  refine lv_istore (lv' := (5, .int (mR M2.2)) :: [(0, .ref b), (1, .ref (xa 0)), (2, .ref a0), (3, .ref oa), (4, .int (nI n))]) hx hb dL_law_613 hl (by decide) rfl (fun ls hl => ?_)
  refine lv_aload_n hx hb dL_law_615 rfl (lv_at hl 3 rfl) ?_
  refine lv_aload_n hx hb dL_law_616 rfl (lv_at hl 1 rfl) ?_
  refine lv_iload hx hb dL_law_617 (lv_at hl 5 rfl) ?_
  refine lv_iconst (v := (1 : Int32)) hx hb dL_law_619 (by decide) ?_
  refine lv_iadd hx hb dL_law_620 ?_
  refine va_sld hx hb hX hbl hbA hS (si_in (k := 1) (by omega) hL i_k1) dL_law_621 ?_
  refine lv_aload_n hx hb dL_law_622 rfl (lv_at hl 1 rfl) ?_
  refine lv_iload hx hb dL_law_623 (lv_at hl 5 rfl) ?_
  refine lv_iconst (v := (2 : Int32)) hx hb dL_law_625 (by decide) ?_
  refine lv_iadd hx hb dL_law_626 ?_
  refine va_sld hx hb hX hbl hbA hS (si_in (k := 2) (by omega) hL i_k2) dL_law_627 ?_
  refine lv_aload_n hx hb dL_law_628 rfl (lv_at hl 1 rfl) ?_
  refine lv_iload hx hb dL_law_629 (lv_at hl 5 rfl) ?_
  refine lv_iconst (v := (3 : Int32)) hx hb dL_law_631 (by decide) ?_
  refine lv_iadd hx hb dL_law_632 ?_
  refine va_sld hx hb hX hbl hbA hS (si_in (k := 3) (by omega) hL i_k3) dL_law_633 ?_
  refine mwV (ci := 7) (A0 := A) (As := [.int (xs (nI n + 1).toNatClampNeg), .int (xs (nI n + 2).toNatClampNeg), .int (xs (nI n + 3).toNatClampNeg)]) (rest := []) (W1 := wO cy oa (oV f C2.1 C2.2.1) (wSp cy xa sa sb tr na ka C2.2.2 ++ wMo cy a0 a1 a2 a3 a4 a5 a6 mo)) (W2 := wO cy oa (oV f C2.1 C2.2.1) (wSp cy xa sa sb tr na ka C2.2.2 ++ wMo cy a0 a1 a2 a3 a4 a5 a6 M2.2)) cM hCF gL_law_X9_core rfl hd_X9_core ⟨rfl, rfl, Nat.le_of_ble_eq_true rfl, Nat.le_of_ble_eq_true rfl⟩ hG hP hD hS hA (h_wL rfl h_Mo) rfl rfl (List.mem_cons_of_mem _ (List.mem_append_right _ (List.mem_of_getElem? g_Mo_0))) rfl hl.1 rfl (Nat.le_of_ble_eq_true rfl) dL_law_634 ⟨hc, hs⟩ (fun H locs hP hD hS => ?_)
  refine lv_istore (lv' := (6, .int M2.1) :: (5, .int (mR M2.2)) :: [(0, .ref b), (1, .ref (xa 0)), (2, .ref a0), (3, .ref oa), (4, .int (nI n))]) hx hb dL_law_637 hl (by decide) rfl (fun ls hl => ?_)
  refine lv_aload_n hx hb dL_law_639 rfl (lv_at hl 4 rfl) ?_
  refine rwV (ci := 7) (As := []) (rest := []) (W1 := wO cy oa (oV f C2.1 C2.2.1) (wSp cy xa sa sb tr na ka C2.2.2 ++ wMo cy a0 a1 a2 a3 a4 a5 a6 M2.2)) ((c_X9_thrown l D cy a0 a1 a2 a3 a4 a5 a6 M2.2).ctx (r := wO cy oa (oV f C2.1 C2.2.1) (wSp cy xa sa sb tr na ka C2.2.2)) wO_app2) hCF gL_law_X9_thrown rfl hd_X9_thrown ⟨rfl, rfl, Nat.le_of_ble_eq_true rfl, Nat.le_of_ble_eq_true rfl⟩ hG hP rfl rfl (List.mem_cons_of_mem _ (List.mem_append_right _ (List.mem_of_getElem? g_Mo_0))) rfl hl.1 rfl (Nat.le_of_ble_eq_true rfl) dL_law_640 ⟨hc, hs⟩ ?_
  refine lv_iload hx hb dL_law_643 (lv_at hl 1 rfl) ?_
  refine lv_icmp_eq (tgt := 650) hx hb dL_law_645 (by decide) (fun _ => ?_) (fun q => absurd rfl q)
  refine lv_iload hx hb dL_law_650 (lv_at hl 1 rfl) ?_
  refine lv_if_ne (tgt := 667) hx hb dL_law_652 (by decide) (fun _ => ?_) (fun k0 => ?_)
  · refine lv_goto (tgt := 2164) hx hb dL_law_667 (by decide) ?_
    exact kk _ _ _ _ _ _ (kl_sub hl) ag.1 hP hD hS
  refine lv_aload_n hx hb dL_law_655 rfl (lv_at hl 5 rfl) ?_
  refine lv_iconst (v := (0 : Int32)) hx hb dL_law_656 (by decide) ?_
  refine va_lald hx hb hG.1 hP 0 3 rfl rfl (bd_of (by decide) (by decide)) dL_law_657 ?_
  refine lv_iload hx hb dL_law_658 (lv_at hl 0 rfl) ?_
  refine lv_i2l hx hb dL_law_660 rfl ?_
  refine W.lcmp hx hb dL_law_661 ?_
  have av := ag_v ag nz_ed k0
  refine lv_if_eq (tgt := 667) hx hb dL_law_662 (by decide) (fun _ => ?_) (fun q => absurd (lg_same ((oV_get av.1).trans (congrArg Int32.toInt64 av.2))) q)
  refine lv_goto (tgt := 2164) hx hb dL_law_667 (by decide) ?_
  exact kk _ _ _ _ _ _ (kl_sub hl) ag.1 hP hD hS
set_option maxRecDepth 20000 in
theorem w_setting {p : Program} {l : Launch} {e : Env} {s : State} {m : MethodId} {below : List Frame} {meth : Method} {c : Code} {b L : Nat} {xs : Nat → Int32} {D : va_G} {cy : Nat → ClassId} {t : FxA} {A : Nat → Prop} {Q : State → Prop} {xa sa sb tr na : Nat → Nat} {ka : Nat → Nat → Nat} {a0 a1 a2 a3 a4 a5 a6 oa : Nat} (C0 : LC p l s m meth c b L xs D cy t A) {n : Nat} (hn : n + 5 ≤ L) (hL : L ≤ 2560) {cells slots : Nat} (hc : cells + 1 ≤ 601024) (hs : slots + 6 ≤ 7293034) {T : Int} (hT0 : 100000 ≤ T) (hT : T ≤ 1000000) {H : Heap} {locs : List Loc} {ls : Array Slot} {z : SpT} {mo : MoT} {f : Nat → Int64}
    (hl : lv_has ls 7 [(0, .ref b), (1, .ref (xa 0)), (2, .ref a0), (3, .ref oa), (4, .int (nI n))]) (h : PR T z mo) (hP : va_P D vwCl (wO cy oa f (wSp cy xa sa sb tr na ka z ++ wMo cy a0 a1 a2 a3 a4 a5 a6 mo)) H) (hD : va_D A (wO cy oa f (wSp cy xa sa sb tr na ka z ++ wMo cy a0 a1 a2 a3 a4 a5 a6 mo))) (hS : va_S A s.heap H locs)
    (kk : ∀ (ls : Array Slot) (H : Heap) (locs : List Loc) (z : SpT) (mo : MoT) (f : Nat → Int64), lv_has ls 7 [(0, .ref b), (1, .ref (xa 0)), (2, .ref a0), (3, .ref oa), (4, .int (nI n))] → PR (T + 99) z mo → va_P D vwCl (wO cy oa f (wSp cy xa sa sb tr na ka z ++ wMo cy a0 a1 a2 a3 a4 a5 a6 mo)) H → va_D A (wO cy oa f (wSp cy xa sa sb tr na ka z ++ wMo cy a0 a1 a2 a3 a4 a5 a6 mo)) → va_S A s.heap H locs → Wx p l e room_1 s m #[Value.ref b] below meth c H locs (cells + 1) (slots + 6) Q (F0 m 2164 ls [])) : Wx p l e room_1 s m #[Value.ref b] below meth c H locs cells slots Q (F0 m 670 ls []) := by
  obtain ⟨hx, hb, hCF, hG, hF, hX, hbl, hbA, hA, hl0, hown⟩ := C0
  refine lv_aload_n hx hb dL_law_670 rfl (lv_at hl 1 rfl) ?_
  refine lv_aload_n hx hb dL_law_671 rfl (lv_at hl 0 rfl) ?_
  refine lv_iload hx hb dL_law_672 (lv_at hl 4 rfl) ?_
  refine lv_iconst (v := (1 : Int32)) hx hb dL_law_674 (by decide) ?_
  refine lv_iadd hx hb dL_law_675 ?_
  refine va_sld hx hb hX hbl hbA hS (si_in (k := 1) (by omega) hL i_k1) dL_law_676 ?_
  refine lv_aload_n hx hb dL_law_677 rfl (lv_at hl 3 rfl) ?_
  have ag := ag_setting (x1 := (xs (nI n + 1).toNatClampNeg)) h
  have cL := (c_L_setting l hl0 D cy t xa sa sb tr na ka oa f h (xs (nI n + 1).toNatClampNeg) (ag_k ag)).ctx (r := wMo cy a0 a1 a2 a3 a4 a5 a6 mo) wO_app wO_app
  have cM := ((c_X9_setting l D cy a0 a1 a2 a3 a4 a5 a6 mo (xs (nI n + 1).toNatClampNeg)).ctx (r := wO cy oa (oV f (m_X8_setting z (xs (nI n + 1).toNatClampNeg)).1 (m_X8_setting z (xs (nI n + 1).toNatClampNeg)).2.1) (wSp cy xa sa sb tr na ka (m_X8_setting z (xs (nI n + 1).toNatClampNeg)).2.2)) wO_app2 wO_app2)
  generalize m_X8_setting z (xs (nI n + 1).toNatClampNeg) = C2 at *
  generalize m_X9_setting mo (xs (nI n + 1).toNatClampNeg) = M2 at *
  refine hxS (A0 := A) (As := [.ref (xa 0), .int (xs (nI n + 1).toNatClampNeg), .ref oa]) (rest := []) (W1 := wO cy oa f (wSp cy xa sa sb tr na ka z ++ wMo cy a0 a1 a2 a3 a4 a5 a6 mo)) (W2 := wO cy oa (oV f C2.1 C2.2.1) (wSp cy xa sa sb tr na ka C2.2.2 ++ wMo cy a0 a1 a2 a3 a4 a5 a6 mo)) cL hCF gL_law_L_setting rfl hq_L_setting ⟨Nat.le_of_ble_eq_true rfl, Nat.le_of_ble_eq_true rfl⟩ hG hF hP hD hS hA (h_wL h_Sp rfl) rfl hl.1 rfl (Nat.le_of_ble_eq_true rfl) dL_law_678 ⟨hc, hs⟩ (fun H locs hP hD hS => ?_)
  refine lv_istore (lv' := (5, .int (mR M2.2)) :: [(0, .ref b), (1, .ref (xa 0)), (2, .ref a0), (3, .ref oa), (4, .int (nI n))]) hx hb dL_law_681 hl (by decide) rfl (fun ls hl => ?_)
  refine lv_aload_n hx hb dL_law_683 rfl (lv_at hl 3 rfl) ?_
  refine lv_aload_n hx hb dL_law_684 rfl (lv_at hl 1 rfl) ?_
  refine lv_iload hx hb dL_law_685 (lv_at hl 5 rfl) ?_
  refine lv_iconst (v := (1 : Int32)) hx hb dL_law_687 (by decide) ?_
  refine lv_iadd hx hb dL_law_688 ?_
  refine va_sld hx hb hX hbl hbA hS (si_in (k := 1) (by omega) hL i_k1) dL_law_689 ?_
  refine mwV (ci := 7) (A0 := A) (As := [.int (xs (nI n + 1).toNatClampNeg)]) (rest := []) (W1 := wO cy oa (oV f C2.1 C2.2.1) (wSp cy xa sa sb tr na ka C2.2.2 ++ wMo cy a0 a1 a2 a3 a4 a5 a6 mo)) (W2 := wO cy oa (oV f C2.1 C2.2.1) (wSp cy xa sa sb tr na ka C2.2.2 ++ wMo cy a0 a1 a2 a3 a4 a5 a6 M2.2)) cM hCF gL_law_X9_setting rfl hd_X9_setting ⟨rfl, rfl, Nat.le_of_ble_eq_true rfl, Nat.le_of_ble_eq_true rfl⟩ hG hP hD hS hA (h_wL rfl h_Mo) rfl rfl (List.mem_cons_of_mem _ (List.mem_append_right _ (List.mem_of_getElem? g_Mo_0))) rfl hl.1 rfl (Nat.le_of_ble_eq_true rfl) dL_law_690 ⟨hc, hs⟩ (fun H locs hP hD hS => ?_)
  refine lv_istore (lv' := (6, .int M2.1) :: (5, .int (mR M2.2)) :: [(0, .ref b), (1, .ref (xa 0)), (2, .ref a0), (3, .ref oa), (4, .int (nI n))]) hx hb dL_law_693 hl (by decide) rfl (fun ls hl => ?_)
  refine lv_aload_n hx hb dL_law_695 rfl (lv_at hl 4 rfl) ?_
  refine rwV (ci := 7) (As := []) (rest := []) (W1 := wO cy oa (oV f C2.1 C2.2.1) (wSp cy xa sa sb tr na ka C2.2.2 ++ wMo cy a0 a1 a2 a3 a4 a5 a6 M2.2)) ((c_X9_thrown l D cy a0 a1 a2 a3 a4 a5 a6 M2.2).ctx (r := wO cy oa (oV f C2.1 C2.2.1) (wSp cy xa sa sb tr na ka C2.2.2)) wO_app2) hCF gL_law_X9_thrown rfl hd_X9_thrown ⟨rfl, rfl, Nat.le_of_ble_eq_true rfl, Nat.le_of_ble_eq_true rfl⟩ hG hP rfl rfl (List.mem_cons_of_mem _ (List.mem_append_right _ (List.mem_of_getElem? g_Mo_0))) rfl hl.1 rfl (Nat.le_of_ble_eq_true rfl) dL_law_696 ⟨hc, hs⟩ ?_
  refine lv_iload hx hb dL_law_699 (lv_at hl 1 rfl) ?_
  refine lv_icmp_eq (tgt := 706) hx hb dL_law_701 (by decide) (fun _ => ?_) (fun q => absurd rfl q)
  refine lv_iload hx hb dL_law_706 (lv_at hl 1 rfl) ?_
  refine lv_if_ne (tgt := 723) hx hb dL_law_708 (by decide) (fun _ => ?_) (fun k0 => ?_)
  · refine lv_goto (tgt := 2164) hx hb dL_law_723 (by decide) ?_
    exact kk _ _ _ _ _ _ (kl_sub hl) ag.1 hP hD hS
  refine lv_aload_n hx hb dL_law_711 rfl (lv_at hl 5 rfl) ?_
  refine lv_iconst (v := (0 : Int32)) hx hb dL_law_712 (by decide) ?_
  refine va_lald hx hb hG.1 hP 0 3 rfl rfl (bd_of (by decide) (by decide)) dL_law_713 ?_
  refine lv_iload hx hb dL_law_714 (lv_at hl 0 rfl) ?_
  refine lv_i2l hx hb dL_law_716 rfl ?_
  refine W.lcmp hx hb dL_law_717 ?_
  have av := ag_v ag nz_ec k0
  refine lv_if_eq (tgt := 723) hx hb dL_law_718 (by decide) (fun _ => ?_) (fun q => absurd (lg_same ((oV_get av.1).trans (congrArg Int32.toInt64 av.2))) q)
  refine lv_goto (tgt := 2164) hx hb dL_law_723 (by decide) ?_
  exact kk _ _ _ _ _ _ (kl_sub hl) ag.1 hP hD hS
