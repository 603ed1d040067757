/-! the cases of the law -/
set_option maxRecDepth 20000 in
theorem w_undo {p : Program} {l : Launch} {e : Env} {s : State} {m : MethodId} {below : List Frame} {meth : Method} {c : Code} {b L : Nat} {xs : Nat → Int32} {D : va_G} {cy : Nat → ClassId} {t : FxA} {A : Nat → Prop} {Q : State → Prop} {xa sa sb tr na : Nat → Nat} {ka : Nat → Nat → Nat} {a0 a1 a2 a3 a4 a5 a6 oa : Nat} (C0 : LC p l s m meth c b L xs D cy t A) {n : Nat} (hn : n + 5 ≤ L) (hL : L ≤ 2560) {cells slots : Nat} (hc : cells + 1 ≤ 601024) (hs : slots + 6 ≤ 7293034) {T : Int} (hT0 : 100000 ≤ T) (hT : T ≤ 1000000) {H : Heap} {locs : List Loc} {ls : Array Slot} {z : SpT} {mo : MoT} {f : Nat → Int64}
    (hl : lv_has ls 7 [(0, .ref b), (1, .ref (xa 0)), (2, .ref a0), (3, .ref oa), (4, .int (nI n))]) (h : PR T z mo) (hP : va_P D vwCl (wO cy oa f (wSp cy xa sa sb tr na ka z ++ wMo cy a0 a1 a2 a3 a4 a5 a6 mo)) H) (hD : va_D A (wO cy oa f (wSp cy xa sa sb tr na ka z ++ wMo cy a0 a1 a2 a3 a4 a5 a6 mo))) (hS : va_S A s.heap H locs)
    (kk : ∀ (ls : Array Slot) (H : Heap) (locs : List Loc) (z : SpT) (mo : MoT) (f : Nat → Int64), lv_has ls 7 [(0, .ref b), (1, .ref (xa 0)), (2, .ref a0), (3, .ref oa), (4, .int (nI n))] → PR (T + 99) z mo → va_P D vwCl (wO cy oa f (wSp cy xa sa sb tr na ka z ++ wMo cy a0 a1 a2 a3 a4 a5 a6 mo)) H → va_D A (wO cy oa f (wSp cy xa sa sb tr na ka z ++ wMo cy a0 a1 a2 a3 a4 a5 a6 mo)) → va_S A s.heap H locs → Wx p l e room_1 s m #[Value.ref b] below meth c H locs (cells + 1) (slots + 6) Q (F0 m 2164 ls [])) : Wx p l e room_1 s m #[Value.ref b] below meth c H locs cells slots Q (F0 m 1510 ls []) := by
  obtain ⟨hx, hb, hCF, hG, hF, hX, hbl, hbA, hA, hl0, hown⟩ := C0
  refine lv_aload_n hx hb dL_law_1510 rfl (lv_at hl 1 rfl) ?_
  refine lv_aload_n hx hb dL_law_1511 rfl (lv_at hl 3 rfl) ?_
  have ag := ag_undo h
  have cL := (c_L_undo l hl0 D cy t xa sa sb tr na ka oa f h (ag_k ag)).ctx (r := wMo cy a0 a1 a2 a3 a4 a5 a6 mo) wO_app wO_app
  have cM := ((c_X9_undo l D cy a0 a1 a2 a3 a4 a5 a6 mo h.ac).ctx (r := wO cy oa (oV f (m_X8_undo z).1 (m_X8_undo z).2.1) (wSp cy xa sa sb tr na ka (m_X8_undo z).2.2)) wO_app2 wO_app2)
  generalize m_X8_undo z = C2 at *
  generalize m_X9_undo mo = M2 at *
  refine hxS (A0 := A) (As := [.ref (xa 0), .ref oa]) (rest := []) (W1 := wO cy oa f (wSp cy xa sa sb tr na ka z ++ wMo cy a0 a1 a2 a3 a4 a5 a6 mo)) (W2 := wO cy oa (oV f C2.1 C2.2.1) (wSp cy xa sa sb tr na ka C2.2.2 ++ wMo cy a0 a1 a2 a3 a4 a5 a6 mo)) cL hCF gL_law_L_undo rfl hq_L_undo ⟨Nat.le_of_ble_eq_true rfl, Nat.le_of_ble_eq_true rfl⟩ hG hF hP hD hS hA (h_wL h_Sp rfl) rfl hl.1 rfl (Nat.le_of_ble_eq_true rfl) dL_law_1512 ⟨hc, hs⟩ (fun H locs hP hD hS => ?_)
  refine lv_istore (lv' := (5, .int (mR M2.2)) :: [(0, .ref b), (1, .ref (xa 0)), (2, .ref a0), (3, .ref oa), (4, .int (nI n))]) hx hb dL_law_1515 hl (by decide) rfl (fun ls hl => ?_)
  refine lv_aload_n hx hb dL_law_1517 rfl (lv_at hl 3 rfl) ?_
  refine mwV (ci := 7) (A0 := A) (As := []) (rest := []) (W1 := wO cy oa (oV f C2.1 C2.2.1) (wSp cy xa sa sb tr na ka C2.2.2 ++ wMo cy a0 a1 a2 a3 a4 a5 a6 mo)) (W2 := wO cy oa (oV f C2.1 C2.2.1) (wSp cy xa sa sb tr na ka C2.2.2 ++ wMo cy a0 a1 a2 a3 a4 a5 a6 M2.2)) cM hCF gL_law_X9_undo rfl hd_X9_undo ⟨rfl, rfl, Nat.le_of_ble_eq_true rfl, Nat.le_of_ble_eq_true rfl⟩ hG hP hD hS hA (h_wL rfl h_Mo) rfl rfl (List.mem_cons_of_mem _ (List.mem_append_right _ (List.mem_of_getElem? g_Mo_0))) rfl hl.1 rfl (Nat.le_of_ble_eq_true rfl) dL_law_1518 ⟨hc, hs⟩ (fun H locs hP hD hS => ?_)
  refine lv_istore (lv' := (6, .int M2.1) :: (5, .int (mR M2.2)) :: [(0, .ref b), (1, .ref (xa 0)), (2, .ref a0), (3, .ref oa), (4, .int (nI n))]) hx hb dL_law_1521 hl (by decide) rfl (fun ls hl => ?_)
  refine lv_aload_n hx hb dL_law_1523 rfl (lv_at hl 4 rfl) ?_
  refine rwV (ci := 7) (As := []) (rest := []) (W1 := wO cy oa (oV f C2.1 C2.2.1) (wSp cy xa sa sb tr na ka C2.2.2 ++ wMo cy a0 a1 a2 a3 a4 a5 a6 M2.2)) ((c_X9_thrown l D cy a0 a1 a2 a3 a4 a5 a6 M2.2).ctx (r := wO cy oa (oV f C2.1 C2.2.1) (wSp cy xa sa sb tr na ka C2.2.2)) wO_app2) hCF gL_law_X9_thrown rfl hd_X9_thrown ⟨rfl, rfl, Nat.le_of_ble_eq_true rfl, Nat.le_of_ble_eq_true rfl⟩ hG hP rfl rfl (List.mem_cons_of_mem _ (List.mem_append_right _ (List.mem_of_getElem? g_Mo_0))) rfl hl.1 rfl (Nat.le_of_ble_eq_true rfl) dL_law_1524 ⟨hc, hs⟩ ?_
  refine lv_iload hx hb dL_law_1527 (lv_at hl 1 rfl) ?_
  refine lv_icmp_eq (tgt := 1534) hx hb dL_law_1529 (by decide) (fun _ => ?_) (fun q => absurd rfl q)
  refine lv_iload hx hb dL_law_1534 (lv_at hl 1 rfl) ?_
  refine lv_if_ne (tgt := 1551) hx hb dL_law_1536 (by decide) (fun _ => ?_) (fun k0 => ?_)
  · refine lv_goto (tgt := 2164) hx hb dL_law_1551 (by decide) ?_
    exact kk _ _ _ _ _ _ (kl_sub hl) ag.1 hP hD hS
  refine lv_aload_n hx hb dL_law_1539 rfl (lv_at hl 5 rfl) ?_
  refine lv_iconst (v := (0 : Int32)) hx hb dL_law_1540 (by decide) ?_
  refine va_lald hx hb hG.1 hP 0 3 rfl rfl (bd_of (by decide) (by decide)) dL_law_1541 ?_
  refine lv_iload hx hb dL_law_1542 (lv_at hl 0 rfl) ?_
  refine lv_i2l hx hb dL_law_1544 rfl ?_
  refine W.lcmp hx hb dL_law_1545 ?_
  have av := ag_v ag nz_ef k0
  refine lv_if_eq (tgt := 1551) hx hb dL_law_1546 (by decide) (fun _ => ?_) (fun q => absurd (lg_same ((oV_get av.1).trans (congrArg Int32.toInt64 av.2))) q)
  refine lv_goto (tgt := 2164) hx hb dL_law_1551 (by decide) ?_
  exact kk _ _ _ _ _ _ (kl_sub hl) ag.1 hP hD hS
set_option maxRecDepth 20000 in
theorem w_complete {p : Program} {l : Launch} {e : Env} {s : State} {m : MethodId} {below : List Frame} {meth : Method} {c : Code} {b L : Nat} {xs : Nat → Int32} {D : va_G} {cy : Nat → ClassId} {t : FxA} {A : Nat → Prop} {Q : State → Prop} {xa sa sb tr na : Nat → Nat} {ka : Nat → Nat → Nat} {a0 a1 a2 a3 a4 a5 a6 oa : Nat} (C0 : LC p l s m meth c b L xs D cy t A) {n : Nat} (hn : n + 5 ≤ L) (hL : L ≤ 2560) {cells slots : Nat} (hc : cells + 1 ≤ 601024) (hs : slots + 6 ≤ 7293034) {T : Int} (hT0 : 100000 ≤ T) (hT : T ≤ 1000000) {H : Heap} {locs : List Loc} {ls : Array Slot} {z : SpT} {mo : MoT} {f : Nat → Int64}
    (hl : lv_has ls 7 [(0, .ref b), (1, .ref (xa 0)), (2, .ref a0), (3, .ref oa), (4, .int (nI n))]) (h : PR T z mo) (hP : va_P D vwCl (wO cy oa f (wSp cy xa sa sb tr na ka z ++ wMo cy a0 a1 a2 a3 a4 a5 a6 mo)) H) (hD : va_D A (wO cy oa f (wSp cy xa sa sb tr na ka z ++ wMo cy a0 a1 a2 a3 a4 a5 a6 mo))) (hS : va_S A s.heap H locs)
    (kk : ∀ (ls : Array Slot) (H : Heap) (locs : List Loc) (z : SpT) (mo : MoT) (f : Nat → Int64), lv_has ls 7 [(0, .ref b), (1, .ref (xa 0)), (2, .ref a0), (3, .ref oa), (4, .int (nI n))] → PR (T + 99) z mo → va_P D vwCl (wO cy oa f (wSp cy xa sa sb tr na ka z ++ wMo cy a0 a1 a2 a3 a4 a5 a6 mo)) H → va_D A (wO cy oa f (wSp cy xa sa sb tr na ka z ++ wMo cy a0 a1 a2 a3 a4 a5 a6 mo)) → va_S A s.heap H locs → Wx p l e room_1 s m #[Value.ref b] below meth c H locs (cells + 1) (slots + 6) Q (F0 m 2164 ls [])) : Wx p l e room_1 s m #[Value.ref b] below meth c H locs cells slots Q (F0 m 1554 ls []) := by
  obtain ⟨hx, hb, hCF, hG, hF, hX, hbl, hbA, hA, hl0, hown⟩ := C0
  refine lv_aload_n hx hb dL_law_1554 rfl (lv_at hl 1 rfl) ?_
  refine lv_aload_n hx hb dL_law_1555 rfl (lv_at hl 0 rfl) ?_
  refine lv_iload hx hb dL_law_1556 (lv_at hl 4 rfl) ?_
  refine lv_iconst (v := (1 : Int32)) hx hb dL_law_1558 (by decide) ?_
  refine lv_iadd hx hb dL_law_1559 ?_
  refine va_sld hx hb hX hbl hbA hS (si_in (k := 1) (by omega) hL i_k1) dL_law_1560 ?_
  refine lv_aload_n hx hb dL_law_1561 rfl (lv_at hl 0 rfl) ?_
  refine lv_iload hx hb dL_law_1562 (lv_at hl 4 rfl) ?_
  refine lv_iconst (v := (2 : Int32)) hx hb dL_law_1564 (by decide) ?_
  refine lv_iadd hx hb dL_law_1565 ?_
  refine va_sld hx hb hX hbl hbA hS (si_in (k := 2) (by omega) hL i_k2) dL_law_1566 ?_
  refine lv_aload_n hx hb dL_law_1567 rfl (lv_at hl 3 rfl) ?_
  have ag := ag_complete (x1 := (xs (nI n + 1).toNatClampNeg)) (x2 := (xs (nI n + 2).toNatClampNeg)) h
  have cL := (c_L_complete l hl0 D cy t xa sa sb tr na ka oa f h (xs (nI n + 1).toNatClampNeg) (xs (nI n + 2).toNatClampNeg) (ag_k ag)).ctx (r := wMo cy a0 a1 a2 a3 a4 a5 a6 mo) wO_app wO_app
  have cM := ((c_X9_complete l D cy a0 a1 a2 a3 a4 a5 a6 mo (xs (nI n + 1).toNatClampNeg) (xs (nI n + 2).toNatClampNeg) h.ro).ctx (r := wO cy oa (oV f (m_X8_complete z (xs (nI n + 1).toNatClampNeg) (xs (nI n + 2).toNatClampNeg)).1 (m_X8_complete z (xs (nI n + 1).toNatClampNeg) (xs (nI n + 2).toNatClampNeg)).2.1) (wSp cy xa sa sb tr na ka (m_X8_complete z (xs (nI n + 1).toNatClampNeg) (xs (nI n + 2).toNatClampNeg)).2.2)) wO_app2 wO_app2)
  generalize m_X8_complete z (xs (nI n + 1).toNatClampNeg) (xs (nI n + 2).toNatClampNeg) = C2 at *
  generalize m_X9_complete mo (xs (nI n + 1).toNatClampNeg) (xs (nI n + 2).toNatClampNeg) = M2 at *
  refine hxS (A0 := A) (As := [.ref (xa 0), .int (xs (nI n + 1).toNatClampNeg), .int (xs (nI n + 2).toNatClampNeg), .ref oa]) (rest := []) (W1 := wO cy oa f (wSp cy xa sa sb tr na ka z ++ wMo cy a0 a1 a2 a3 a4 a5 a6 mo)) (W2 := wO cy oa (oV f C2.1 C2.2.1) (wSp cy xa sa sb tr na ka C2.2.2 ++ wMo cy a0 a1 a2 a3 a4 a5 a6 mo)) cL hCF gL_law_L_complete rfl hq_L_complete ⟨Nat.le_of_ble_eq_true rfl, Nat.le_of_ble_eq_true rfl⟩ hG hF hP hD hS hA (h_wL h_Sp rfl) rfl hl.1 rfl (Nat.le_of_ble_eq_true rfl) dL_law_1568 ⟨hc, hs⟩ (fun H locs hP hD hS => ?_)
  refine lv_istore (lv' := (5, .int (mR M2.2)) :: [(0, .ref b), (1, .ref (xa 0)), (2, .ref a0), (3, .ref oa), (4, .int (nI n))]) hx hb dL_law_1571 hl (by decide) rfl (fun ls hl => ?_)
  refine lv_aload_n hx hb dL_law_1573 rfl (lv_at hl 3 rfl) ?_
  refine lv_aload_n hx hb dL_law_1574 rfl (lv_at hl 1 rfl) ?_
  refine lv_iload hx hb dL_law_1575 (lv_at hl 5 rfl) ?_
  refine lv_iconst (v := (1 : Int32)) hx hb dL_law_1577 (by decide) ?_
  refine lv_iadd hx hb dL_law_1578 ?_
  refine va_sld hx hb hX hbl hbA hS (si_in (k := 1) (by omega) hL i_k1) dL_law_1579 ?_
  refine lv_aload_n hx hb dL_law_1580 rfl (lv_at hl 1 rfl) ?_
  refine lv_iload hx hb dL_law_1581 (lv_at hl 5 rfl) ?_
  refine lv_iconst (v := (2 : Int32)) hx hb dL_law_1583 (by decide) ?_
  refine lv_iadd hx hb dL_law_1584 ?_
  refine va_sld hx hb hX hbl hbA hS (si_in (k := 2) (by omega) hL i_k2) dL_law_1585 ?_
  refine mwV (ci := 7) (A0 := A) (As := [.int (xs (nI n + 1).toNatClampNeg), .int (xs (nI n + 2).toNatClampNeg)]) (rest := []) (W1 := wO cy oa (oV f C2.1 C2.2.1) (wSp cy xa sa sb tr na ka C2.2.2 ++ wMo cy a0 a1 a2 a3 a4 a5 a6 mo)) (W2 := wO cy oa (oV f C2.1 C2.2.1) (wSp cy xa sa sb tr na ka C2.2.2 ++ wMo cy a0 a1 a2 a3 a4 a5 a6 M2.2)) cM hCF gL_law_X9_complete rfl hd_X9_complete ⟨rfl, rfl, Nat.le_of_ble_eq_true rfl, Nat.le_of_ble_eq_true rfl⟩ hG hP hD hS hA (h_wL rfl h_Mo) rfl rfl (List.mem_cons_of_mem _ (List.mem_append_right _ (List.mem_of_getElem? g_Mo_0))) rfl hl.1 rfl (Nat.le_of_ble_eq_true rfl) dL_law_1586 ⟨hc, hs⟩ (fun H locs hP hD hS => ?_)
  refine lv_istore (lv' := (6, .int M2.1) :: (5, .int (mR M2.2)) :: [(0, .ref b), (1, .ref (xa 0)), (2, .ref a0), (3, .ref oa), (4, .int (nI n))]) hx hb dL_law_1589 hl (by decide) rfl (fun ls hl => ?_)
  refine lv_aload_n hx hb dL_law_1591 rfl (lv_at hl 4 rfl) ?_
  refine rwV (ci := 7) (As := []) (rest := []) (W1 := wO cy oa (oV f C2.1 C2.2.1) (wSp cy xa sa sb tr na ka C2.2.2 ++ wMo cy a0 a1 a2 a3 a4 a5 a6 M2.2)) ((c_X9_thrown l D cy a0 a1 a2 a3 a4 a5 a6 M2.2).ctx (r := wO cy oa (oV f C2.1 C2.2.1) (wSp cy xa sa sb tr na ka C2.2.2)) wO_app2) hCF gL_law_X9_thrown rfl hd_X9_thrown ⟨rfl, rfl, Nat.le_of_ble_eq_true rfl, Nat.le_of_ble_eq_true rfl⟩ hG hP rfl rfl (List.mem_cons_of_mem _ (List.mem_append_right _ (List.mem_of_getElem? g_Mo_0))) rfl hl.1 rfl (Nat.le_of_ble_eq_true rfl) dL_law_1592 ⟨hc, hs⟩ ?_
  refine lv_iload hx hb dL_law_1595 (lv_at hl 1 rfl) ?_
  refine lv_icmp_eq (tgt := 1602) hx hb dL_law_1597 (by decide) (fun _ => ?_) (fun q => absurd rfl q)
  refine lv_iload hx hb dL_law_1602 (lv_at hl 1 rfl) ?_
  refine lv_if_ne (tgt := 1619) hx hb dL_law_1604 (by decide) (fun _ => ?_) (fun k0 => ?_)
  · refine lv_goto (tgt := 2164) hx hb dL_law_1619 (by decide) ?_
    exact kk _ _ _ _ _ _ (kl_sub hl) ag.1 hP hD hS
  refine lv_aload_n hx hb dL_law_1607 rfl (lv_at hl 5 rfl) ?_
  refine lv_iconst (v := (0 : Int32)) hx hb dL_law_1608 (by decide) ?_
  refine va_lald hx hb hG.1 hP 0 3 rfl rfl (bd_of (by decide) (by decide)) dL_law_1609 ?_
  refine lv_iload hx hb dL_law_1610 (lv_at hl 0 rfl) ?_
  refine lv_i2l hx hb dL_law_1612 rfl ?_
  refine W.lcmp hx hb dL_law_1613 ?_
  have av := ag_v ag nz_ee k0
  refine lv_if_eq (tgt := 1619) hx hb dL_law_1614 (by decide) (fun _ => ?_) (fun q => absurd (lg_same ((oV_get av.1).trans (congrArg Int32.toInt64 av.2))) q)
  refine lv_goto (tgt := 2164) hx hb dL_law_1619 (by decide) ?_
  exact kk _ _ _ _ _ _ (kl_sub hl) ag.1 hP hD hS
set_option maxRecDepth 20000 in
theorem w_takings {p : Program} {l : Launch} {e : Env} {s : State} {m : MethodId} {below : List Frame} {meth : Method} {c : Code} {b L : Nat} {xs : Nat → Int32} {D : va_G} {cy : Nat → ClassId} {t : FxA} {A : Nat → Prop} {Q : State → Prop} {xa sa sb tr na : Nat → Nat} {ka : Nat → Nat → Nat} {a0 a1 a2 a3 a4 a5 a6 oa : Nat} (C0 : LC p l s m meth c b L xs D cy t A) {n : Nat} (hn : n + 5 ≤ L) (hL : L ≤ 2560) {cells slots : Nat} (hc : cells + 1 ≤ 601024) (hs : slots + 6 ≤ 7293034) {T : Int} (hT0 : 100000 ≤ T) (hT : T ≤ 1000000) {H : Heap} {locs : List Loc} {ls : Array Slot} {z : SpT} {mo : MoT} {f : Nat → Int64}
    (hl : lv_has ls 7 [(0, .ref b), (1, .ref (xa 0)), (2, .ref a0), (3, .ref oa), (4, .int (nI n))]) (h : PR T z mo) (hP : va_P D vwCl (wO cy oa f (wSp cy xa sa sb tr na ka z ++ wMo cy a0 a1 a2 a3 a4 a5 a6 mo)) H) (hD : va_D A (wO cy oa f (wSp cy xa sa sb tr na ka z ++ wMo cy a0 a1 a2 a3 a4 a5 a6 mo))) (hS : va_S A s.heap H locs)
    (kk : ∀ (ls : Array Slot) (H : Heap) (locs : List Loc) (z : SpT) (mo : MoT) (f : Nat → Int64), lv_has ls 7 [(0, .ref b), (1, .ref (xa 0)), (2, .ref a0), (3, .ref oa), (4, .int (nI n))] → PR (T + 99) z mo → va_P D vwCl (wO cy oa f (wSp cy xa sa sb tr na ka z ++ wMo cy a0 a1 a2 a3 a4 a5 a6 mo)) H → va_D A (wO cy oa f (wSp cy xa sa sb tr na ka z ++ wMo cy a0 a1 a2 a3 a4 a5 a6 mo)) → va_S A s.heap H locs → Wx p l e room_1 s m #[Value.ref b] below meth c H locs (cells + 1) (slots + 6) Q (F0 m 2164 ls [])) : Wx p l e room_1 s m #[Value.ref b] below meth c H locs cells slots Q (F0 m 1622 ls []) := by
  obtain ⟨hx, hb, hCF, hG, hF, hX, hbl, hbA, hA, hl0, hown⟩ := C0
  refine lv_aload_n hx hb dL_law_1622 rfl (lv_at hl 1 rfl) ?_
  refine lv_aload_n hx hb dL_law_1623 rfl (lv_at hl 0 rfl) ?_
  refine lv_iload hx hb dL_law_1624 (lv_at hl 4 rfl) ?_
  refine lv_iconst (v := (1 : Int32)) hx hb dL_law_1626 (by decide) ?_
  refine lv_iadd hx hb dL_law_1627 ?_
  refine va_sld hx hb hX hbl hbA hS (si_in (k := 1) (by omega) hL i_k1) dL_law_1628 ?_
  refine lv_aload_n hx hb dL_law_1629 rfl (lv_at hl 0 rfl) ?_
  refine lv_iload hx hb dL_law_1630 (lv_at hl 4 rfl) ?_
  refine lv_iconst (v := (2 : Int32)) hx hb dL_law_1632 (by decide) ?_
  refine lv_iadd hx hb dL_law_1633 ?_
  refine va_sld hx hb hX hbl hbA hS (si_in (k := 2) (by omega) hL i_k2) dL_law_1634 ?_
  refine lv_aload_n hx hb dL_law_1635 rfl (lv_at hl 3 rfl) ?_
  have ag := ag_takings (x1 := (xs (nI n + 1).toNatClampNeg)) (x2 := (xs (nI n + 2).toNatClampNeg)) h
  have cL := (c_L_takings l hl0 D cy t xa sa sb tr na ka oa f h (xs (nI n + 1).toNatClampNeg) (xs (nI n + 2).toNatClampNeg) (ag_k ag)).ctx (r := wMo cy a0 a1 a2 a3 a4 a5 a6 mo) wO_app wO_app
  have cM := ((c_X9_takings l D cy a0 a1 a2 a3 a4 a5 a6 mo (xs (nI n + 1).toNatClampNeg) (xs (nI n + 2).toNatClampNeg) h.ro).ctx (r := wO cy oa (oV f (m_X8_takings z (xs (nI n + 1).toNatClampNeg) (xs (nI n + 2).toNatClampNeg)).1 (m_X8_takings z (xs (nI n + 1).toNatClampNeg) (xs (nI n + 2).toNatClampNeg)).2.1) (wSp cy xa sa sb tr na ka (m_X8_takings z (xs (nI n + 1).toNatClampNeg) (xs (nI n + 2).toNatClampNeg)).2.2)) wO_app2 wO_app2)
  generalize m_X8_takings z (xs (nI n + 1).toNatClampNeg) (xs (nI n + 2).toNatClampNeg) = C2 at *
  generalize m_X9_takings mo (xs (nI n + 1).toNatClampNeg) (xs (nI n + 2).toNatClampNeg) = M2 at *
  refine hxS (A0 := A) (As := [.ref (xa 0), .int (xs (nI n + 1).toNatClampNeg), .int (xs (nI n + 2).toNatClampNeg), .ref oa]) (rest := []) (W1 := wO cy oa f (wSp cy xa sa sb tr na ka z ++ wMo cy a0 a1 a2 a3 a4 a5 a6 mo)) (W2 := wO cy oa (oV f C2.1 C2.2.1) (wSp cy xa sa sb tr na ka C2.2.2 ++ wMo cy a0 a1 a2 a3 a4 a5 a6 mo)) cL hCF gL_law_L_takings rfl hq_L_takings ⟨Nat.le_of_ble_eq_true rfl, Nat.le_of_ble_eq_true rfl⟩ hG hF hP hD hS hA (h_wL h_Sp rfl) rfl hl.1 rfl (Nat.le_of_ble_eq_true rfl) dL_law_1636 ⟨hc, hs⟩ (fun H locs hP hD hS => ?_)
  refine lv_istore (lv' := (5, .int (mR M2.2)) :: [(0, .ref b), (1, .ref (xa 0)), (2, .ref a0), (3, .ref oa), (4, .int (nI n))]) hx hb dL_law_1639 hl (by decide) rfl (fun ls hl => ?_)
  refine lv_aload_n hx hb dL_law_1641 rfl (lv_at hl 3 rfl) ?_
  refine lv_aload_n hx hb dL_law_1642 rfl (lv_at hl 1 rfl) ?_
  refine lv_iload hx hb dL_law_1643 (lv_at hl 5 rfl) ?_
  refine lv_iconst (v := (1 : Int32)) hx hb dL_law_1645 (by decide) ?_
  refine lv_iadd hx hb dL_law_1646 ?_
  refine va_sld hx hb hX hbl hbA hS (si_in (k := 1) (by omega) hL i_k1) dL_law_1647 ?_
  refine lv_aload_n hx hb dL_law_1648 rfl (lv_at hl 1 rfl) ?_
  refine lv_iload hx hb dL_law_1649 (lv_at hl 5 rfl) ?_
  refine lv_iconst (v := (2 : Int32)) hx hb dL_law_1651 (by decide) ?_
  refine lv_iadd hx hb dL_law_1652 ?_
  refine va_sld hx hb hX hbl hbA hS (si_in (k := 2) (by omega) hL i_k2) dL_law_1653 ?_
  refine mwV (ci := 7) (A0 := A) (As := [.int (xs (nI n + 1).toNatClampNeg), .int (xs (nI n + 2).toNatClampNeg)]) (rest := []) (W1 := wO cy oa (oV f C2.1 C2.2.1) (wSp cy xa sa sb tr na ka C2.2.2 ++ wMo cy a0 a1 a2 a3 a4 a5 a6 mo)) (W2 := wO cy oa (oV f C2.1 C2.2.1) (wSp cy xa sa sb tr na ka C2.2.2 ++ wMo cy a0 a1 a2 a3 a4 a5 a6 M2.2)) cM hCF gL_law_X9_takings rfl hd_X9_takings ⟨rfl, rfl, Nat.le_of_ble_eq_true rfl, Nat.le_of_ble_eq_true rfl⟩ hG hP hD hS hA (h_wL rfl h_Mo) rfl rfl (List.mem_cons_of_mem _ (List.mem_append_right _ (List.mem_of_getElem? g_Mo_0))) rfl hl.1 rfl (Nat.le_of_ble_eq_true rfl) dL_law_1654 ⟨hc, hs⟩ (fun H locs hP hD hS => ?_)
  refine lv_istore (lv' := (6, .int M2.1) :: (5, .int (mR M2.2)) :: [(0, .ref b), (1, .ref (xa 0)), (2, .ref a0), (3, .ref oa), (4, .int (nI n))]) hx hb dL_law_1657 hl (by decide) rfl (fun ls hl => ?_)
  refine lv_aload_n hx hb dL_law_1659 rfl (lv_at hl 4 rfl) ?_
  refine rwV (ci := 7) (As := []) (rest := []) (W1 := wO cy oa (oV f C2.1 C2.2.1) (wSp cy xa sa sb tr na ka C2.2.2 ++ wMo cy a0 a1 a2 a3 a4 a5 a6 M2.2)) ((c_X9_thrown l D cy a0 a1 a2 a3 a4 a5 a6 M2.2).ctx (r := wO cy oa (oV f C2.1 C2.2.1) (wSp cy xa sa sb tr na ka C2.2.2)) wO_app2) hCF gL_law_X9_thrown rfl hd_X9_thrown ⟨rfl, rfl, Nat.le_of_ble_eq_true rfl, Nat.le_of_ble_eq_true rfl⟩ hG hP rfl rfl (List.mem_cons_of_mem _ (List.mem_append_right _ (List.mem_of_getElem? g_Mo_0))) rfl hl.1 rfl (Nat.le_of_ble_eq_true rfl) dL_law_1660 ⟨hc, hs⟩ ?_
  refine lv_iload hx hb dL_law_1663 (lv_at hl 1 rfl) ?_
  refine lv_icmp_eq (tgt := 1670) hx hb dL_law_1665 (by decide) (fun _ => ?_) (fun q => absurd rfl q)
  refine lv_iload hx hb dL_law_1670 (lv_at hl 1 rfl) ?_
  refine lv_if_ne (tgt := 1687) hx hb dL_law_1672 (by decide) (fun _ => ?_) (fun k0 => ?_)
  · refine lv_goto (tgt := 2164) hx hb dL_law_1687 (by decide) ?_
    exact kk _ _ _ _ _ _ (kl_sub hl) ag.1 hP hD hS
  refine lv_aload_n hx hb dL_law_1675 rfl (lv_at hl 5 rfl) ?_
  refine lv_iconst (v := (0 : Int32)) hx hb dL_law_1676 (by decide) ?_
  refine va_lald hx hb hG.1 hP 0 3 rfl rfl (bd_of (by decide) (by decide)) dL_law_1677 ?_
  refine lv_iload hx hb dL_law_1678 (lv_at hl 0 rfl) ?_
  refine lv_i2l hx hb dL_law_1680 rfl ?_
  refine W.lcmp hx hb dL_law_1681 ?_
  have av := ag_v ag nz_ee k0
  refine lv_if_eq (tgt := 1687) hx hb dL_law_1682 (by decide) (fun _ => ?_) (fun q => absurd (lg_same ((oV_get av.1).trans (congrArg Int32.toInt64 av.2))) q)
  refine lv_goto (tgt := 2164) hx hb dL_law_1687 (by decide) ?_
  exact kk _ _ _ _ _ _ (kl_sub hl) ag.1 hP hD hS
set_option maxRecDepth 20000 in
theorem w_bill {p : Program} {l : Launch} {e : Env} {s : State} {m : MethodId} {below : List Frame} {meth : Method} {c : Code} {b L : Nat} {xs : Nat → Int32} {D : va_G} {cy : Nat → ClassId} {t : FxA} {A : Nat → Prop} {Q : State → Prop} {xa sa sb tr na : Nat → Nat} {ka : Nat → Nat → Nat} {a0 a1 a2 a3 a4 a5 a6 oa : Nat} (C0 : LC p l s m meth c b L xs D cy t A) {n : Nat} (hn : n + 5 ≤ L) (hL : L ≤ 2560) {cells slots : Nat} (hc : cells + 1 ≤ 601024) (hs : slots + 6 ≤ 7293034) {T : Int} (hT0 : 100000 ≤ T) (hT : T ≤ 1000000) {H : Heap} {locs : List Loc} {ls : Array Slot} {z : SpT} {mo : MoT} {f : Nat → Int64}
    (hl : lv_has ls 7 [(0, .ref b), (1, .ref (xa 0)), (2, .ref a0), (3, .ref oa), (4, .int (nI n))]) (h : PR T z mo) (hP : va_P D vwCl (wO cy oa f (wSp cy xa sa sb tr na ka z ++ wMo cy a0 a1 a2 a3 a4 a5 a6 mo)) H) (hD : va_D A (wO cy oa f (wSp cy xa sa sb tr na ka z ++ wMo cy a0 a1 a2 a3 a4 a5 a6 mo))) (hS : va_S A s.heap H locs)
    (kk : ∀ (ls : Array Slot) (H : Heap) (locs : List Loc) (z : SpT) (mo : MoT) (f : Nat → Int64), lv_has ls 7 [(0, .ref b), (1, .ref (xa 0)), (2, .ref a0), (3, .ref oa), (4, .int (nI n))] → PR (T + 99) z mo → va_P D vwCl (wO cy oa f (wSp cy xa sa sb tr na ka z ++ wMo cy a0 a1 a2 a3 a4 a5 a6 mo)) H → va_D A (wO cy oa f (wSp cy xa sa sb tr na ka z ++ wMo cy a0 a1 a2 a3 a4 a5 a6 mo)) → va_S A s.heap H locs → Wx p l e room_1 s m #[Value.ref b] below meth c H locs (cells + 1) (slots + 6) Q (F0 m 2164 ls [])) : Wx p l e room_1 s m #[Value.ref b] below meth c H locs cells slots Q (F0 m 1690 ls []) := by
  obtain ⟨hx, hb, hCF, hG, hF, hX, hbl, hbA, hA, hl0, hown⟩ := C0
  refine lv_aload_n hx hb dL_law_1690 rfl (lv_at hl 1 rfl) ?_
  refine lv_aload_n hx hb dL_law_1691 rfl (lv_at hl 0 rfl) ?_
  refine lv_iload hx hb dL_law_1692 (lv_at hl 4 rfl) ?_
  refine lv_iconst (v := (1 : Int32)) hx hb dL_law_1694 (by decide) ?_
  refine lv_iadd hx hb dL_law_1695 ?_
  refine va_sld hx hb hX hbl hbA hS (si_in (k := 1) (by omega) hL i_k1) dL_law_1696 ?_
  refine lv_aload_n hx hb dL_law_1697 rfl (lv_at hl 0 rfl) ?_
  refine lv_iload hx hb dL_law_1698 (lv_at hl 4 rfl) ?_
  refine lv_iconst (v := (2 : Int32)) hx hb dL_law_1700 (by decide) ?_
  refine lv_iadd hx hb dL_law_1701 ?_
  refine va_sld hx hb hX hbl hbA hS (si_in (k := 2) (by omega) hL i_k2) dL_law_1702 ?_
  refine lv_aload_n hx hb dL_law_1703 rfl (lv_at hl 3 rfl) ?_
  have ag := ag_bill (x1 := (xs (nI n + 1).toNatClampNeg)) (x2 := (xs (nI n + 2).toNatClampNeg)) h
  have cL := (c_L_bill l hl0 D cy t xa sa sb tr na ka oa f h (xs (nI n + 1).toNatClampNeg) (xs (nI n + 2).toNatClampNeg) (ag_k ag)).ctx (r := wMo cy a0 a1 a2 a3 a4 a5 a6 mo) wO_app wO_app
  have cM := ((c_X9_bill l D cy a0 a1 a2 a3 a4 a5 a6 mo (xs (nI n + 1).toNatClampNeg) (xs (nI n + 2).toNatClampNeg) h.ro).ctx (r := wO cy oa (oV f (m_X8_bill z (xs (nI n + 1).toNatClampNeg) (xs (nI n + 2).toNatClampNeg)).1 (m_X8_bill z (xs (nI n + 1).toNatClampNeg) (xs (nI n + 2).toNatClampNeg)).2.1) (wSp cy xa sa sb tr na ka (m_X8_bill z (xs (nI n + 1).toNatClampNeg) (xs (nI n + 2).toNatClampNeg)).2.2)) wO_app2 wO_app2)
  generalize m_X8_bill z (xs (nI n + 1).toNatClampNeg) (xs (nI n + 2).toNatClampNeg) = C2 at *
  generalize m_X9_bill mo (xs (nI n + 1).toNatClampNeg) (xs (nI n + 2).toNatClampNeg) = M2 at *
  refine hxS (A0 := A) (As := [.ref (xa 0), .int (xs (nI n + 1).toNatClampNeg), .int (xs (nI n + 2).toNatClampNeg), .ref oa]) (rest := []) (W1 := wO cy oa f (wSp cy xa sa sb tr na ka z ++ wMo cy a0 a1 a2 a3 a4 a5 a6 mo)) (W2 := wO cy oa (oV f C2.1 C2.2.1) (wSp cy xa sa sb tr na ka C2.2.2 ++ wMo cy a0 a1 a2 a3 a4 a5 a6 mo)) cL hCF gL_law_L_bill rfl hq_L_bill ⟨Nat.le_of_ble_eq_true rfl, Nat.le_of_ble_eq_true rfl⟩ hG hF hP hD hS hA (h_wL h_Sp rfl) rfl hl.1 rfl (Nat.le_of_ble_eq_true rfl) dL_law_1704 ⟨hc, hs⟩ (fun H locs hP hD hS => ?_)
  refine lv_istore (lv' := (5, .int (mR M2.2)) :: [(0, .ref b), (1, .ref (xa 0)), (2, .ref a0), (3, .ref oa), (4, .int (nI n))]) hx hb dL_law_1707 hl (by decide) rfl (fun ls hl => ?_)
  refine lv_aload_n hx hb dL_law_1709 rfl (lv_at hl 3 rfl) ?_
  refine lv_aload_n hx hb dL_law_1710 rfl (lv_at hl 1 rfl) ?_
  refine lv_iload hx hb dL_law_1711 (lv_at hl 5 rfl) ?_
  refine lv_iconst (v := (1 : Int32)) hx hb dL_law_1713 (by decide) ?_
  refine lv_iadd hx hb dL_law_1714 ?_
  refine va_sld hx hb hX hbl hbA hS (si_in (k := 1) (by omega) hL i_k1) dL_law_1715 ?_
  refine lv_aload_n hx hb dL_law_1716 rfl (lv_at hl 1 rfl) ?_
  refine lv_iload hx hb dL_law_1717 (lv_at hl 5 rfl) ?_
  refine lv_iconst (v := (2 : Int32)) hx hb dL_law_1719 (by decide) ?_
  refine lv_iadd hx hb dL_law_1720 ?_
  refine va_sld hx hb hX hbl hbA hS (si_in (k := 2) (by omega) hL i_k2) dL_law_1721 ?_
  refine mwV (ci := 7) (A0 := A) (As := [.int (xs (nI n + 1).toNatClampNeg), .int (xs (nI n + 2).toNatClampNeg)]) (rest := []) (W1 := wO cy oa (oV f C2.1 C2.2.1) (wSp cy xa sa sb tr na ka C2.2.2 ++ wMo cy a0 a1 a2 a3 a4 a5 a6 mo)) (W2 := wO cy oa (oV f C2.1 C2.2.1) (wSp cy xa sa sb tr na ka C2.2.2 ++ wMo cy a0 a1 a2 a3 a4 a5 a6 M2.2)) cM hCF gL_law_X9_bill rfl hd_X9_bill ⟨rfl, rfl, Nat.le_of_ble_eq_true rfl, Nat.le_of_ble_eq_true rfl⟩ hG hP hD hS hA (h_wL rfl h_Mo) rfl rfl (List.mem_cons_of_mem _ (List.mem_append_right _ (List.mem_of_getElem? g_Mo_0))) rfl hl.1 rfl (Nat.le_of_ble_eq_true rfl) dL_law_1722 ⟨hc, hs⟩ (fun H locs hP hD hS => ?_)
  refine lv_istore (lv' := (6, .int M2.1) :: (5, .int (mR M2.2)) :: [(0, .ref b), (1, .ref (xa 0)), (2, .ref a0), (3, .ref oa), (4, .int (nI n))]) hx hb dL_law_1725 hl (by decide) rfl (fun ls hl => ?_)
  refine lv_aload_n hx hb dL_law_1727 rfl (lv_at hl 4 rfl) ?_
  refine rwV (ci := 7) (As := []) (rest := []) (W1 := wO cy oa (oV f C2.1 C2.2.1) (wSp cy xa sa sb tr na ka C2.2.2 ++ wMo cy a0 a1 a2 a3 a4 a5 a6 M2.2)) ((c_X9_thrown l D cy a0 a1 a2 a3 a4 a5 a6 M2.2).ctx (r := wO cy oa (oV f C2.1 C2.2.1) (wSp cy xa sa sb tr na ka C2.2.2)) wO_app2) hCF gL_law_X9_thrown rfl hd_X9_thrown ⟨rfl, rfl, Nat.le_of_ble_eq_true rfl, Nat.le_of_ble_eq_true rfl⟩ hG hP rfl rfl (List.mem_cons_of_mem _ (List.mem_append_right _ (List.mem_of_getElem? g_Mo_0))) rfl hl.1 rfl (Nat.le_of_ble_eq_true rfl) dL_law_1728 ⟨hc, hs⟩ ?_
  refine lv_iload hx hb dL_law_1731 (lv_at hl 1 rfl) ?_
  refine lv_icmp_eq (tgt := 1738) hx hb dL_law_1733 (by decide) (fun _ => ?_) (fun q => absurd rfl q)
  refine lv_iload hx hb dL_law_1738 (lv_at hl 1 rfl) ?_
  refine lv_if_ne (tgt := 1755) hx hb dL_law_1740 (by decide) (fun _ => ?_) (fun k0 => ?_)
  · refine lv_goto (tgt := 2164) hx hb dL_law_1755 (by decide) ?_
    exact kk _ _ _ _ _ _ (kl_sub hl) ag.1 hP hD hS
  refine lv_aload_n hx hb dL_law_1743 rfl (lv_at hl 5 rfl) ?_
  refine lv_iconst (v := (0 : Int32)) hx hb dL_law_1744 (by decide) ?_
  refine va_lald hx hb hG.1 hP 0 3 rfl rfl (bd_of (by decide) (by decide)) dL_law_1745 ?_
  refine lv_iload hx hb dL_law_1746 (lv_at hl 0 rfl) ?_
  refine lv_i2l hx hb dL_law_1748 rfl ?_
  refine W.lcmp hx hb dL_law_1749 ?_
  have av := ag_v ag nz_ed k0
  refine lv_if_eq (tgt := 1755) hx hb dL_law_1750 (by decide) (fun _ => ?_) (fun q => absurd (lg_same ((oV_get av.1).trans (congrArg Int32.toInt64 av.2))) q)
  refine lv_goto (tgt := 2164) hx hb dL_law_1755 (by decide) ?_
  exact kk _ _ _ _ _ _ (kl_sub hl) ag.1 hP hD hS
set_option maxRecDepth 20000 in
theorem w_firstDue {p : Program} {l : Launch} {e : Env} {s : State} {m : MethodId} {below : List Frame} {meth : Method} {c : Code} {b L : Nat} {xs : Nat → Int32} {D : va_G} {cy : Nat → ClassId} {t : FxA} {A : Nat → Prop} {Q : State → Prop} {xa sa sb tr na : Nat → Nat} {ka : Nat → Nat → Nat} {a0 a1 a2 a3 a4 a5 a6 oa : Nat} (C0 : LC p l s m meth c b L xs D cy t A) {n : Nat} (hn : n + 5 ≤ L) (hL : L ≤ 2560) {cells slots : Nat} (hc : cells + 1 ≤ 601024) (hs : slots + 6 ≤ 7293034) {T : Int} (hT0 : 100000 ≤ T) (hT : T ≤ 1000000) {H : Heap} {locs : List Loc} {ls : Array Slot} {z : SpT} {mo : MoT} {f : Nat → Int64}
    (hl : lv_has ls 7 [(0, .ref b), (1, .ref (xa 0)), (2, .ref a0), (3, .ref oa), (4, .int (nI n))]) (h : PR T z mo) (hP : va_P D vwCl (wO cy oa f (wSp cy xa sa sb tr na ka z ++ wMo cy a0 a1 a2 a3 a4 a5 a6 mo)) H) (hD : va_D A (wO cy oa f (wSp cy xa sa sb tr na ka z ++ wMo cy a0 a1 a2 a3 a4 a5 a6 mo))) (hS : va_S A s.heap H locs)
    (kk : ∀ (ls : Array Slot) (H : Heap) (locs : List Loc) (z : SpT) (mo : MoT) (f : Nat → Int64), lv_has ls 7 [(0, .ref b), (1, .ref (xa 0)), (2, .ref a0), (3, .ref oa), (4, .int (nI n))] → PR (T + 99) z mo → va_P D vwCl (wO cy oa f (wSp cy xa sa sb tr na ka z ++ wMo cy a0 a1 a2 a3 a4 a5 a6 mo)) H → va_D A (wO cy oa f (wSp cy xa sa sb tr na ka z ++ wMo cy a0 a1 a2 a3 a4 a5 a6 mo)) → va_S A s.heap H locs → Wx p l e room_1 s m #[Value.ref b] below meth c H locs (cells + 1) (slots + 6) Q (F0 m 2164 ls [])) : Wx p l e room_1 s m #[Value.ref b] below meth c H locs cells slots Q (F0 m 1758 ls []) := by
  obtain ⟨hx, hb, hCF, hG, hF, hX, hbl, hbA, hA, hl0, hown⟩ := C0
  refine lv_aload_n hx hb dL_law_1758 rfl (lv_at hl 1 rfl) ?_
  have ag := ag_firstDue h
  have cC := (c_X8_firstDue l D cy t xa sa sb tr na ka z h.st).ctx (r := (oa, .inl (cy 3, 1, .inr (.inl f))) :: wMo cy a0 a1 a2 a3 a4 a5 a6 mo) (wO_app3 (f := f)) (wO_app3 (f := f))
  have cM := (c_X9_firstDue l D cy a0 a1 a2 a3 a4 a5 a6 mo h.ro).ctx (r := wO cy oa f (wSp cy xa sa sb tr na ka ((m_X8_firstDue z).2))) wO_app2 wO_app2
  generalize (m_X8_firstDue z).2 = Z2 at *
  generalize (m_X8_firstDue z).1 = V2 at *
  generalize m_X9_firstDue mo = M2 at *
  refine fwV (ci := 6) (A0 := A) (As := []) (rest := []) (W1 := wO cy oa f (wSp cy xa sa sb tr na ka z ++ wMo cy a0 a1 a2 a3 a4 a5 a6 mo)) (W2 := wO cy oa f (wSp cy xa sa sb tr na ka Z2 ++ wMo cy a0 a1 a2 a3 a4 a5 a6 mo)) cC hCF gL_law_X8_firstDue rfl hd_X8_firstDue ⟨rfl, rfl, Nat.le_of_ble_eq_true rfl, Nat.le_of_ble_eq_true rfl⟩ hG hF hP hD hS hA (h_wL h_Sp rfl) rfl rfl (List.mem_cons_of_mem _ (List.mem_append_left _ (List.mem_of_getElem? g_Sp_0))) rfl hl.1 rfl (Nat.le_of_ble_eq_true rfl) dL_law_1759 ⟨by show cells ≤ 601024; omega, by show slots ≤ 7293034; omega⟩ (fun H locs hP hD hS => ?_)
  refine lv_aload_n hx hb dL_law_1762 rfl (lv_at hl 2 rfl) ?_
  refine mwV (ci := 7) (A0 := A) (As := []) (rest := [.int V2]) (W1 := wO cy oa f (wSp cy xa sa sb tr na ka Z2 ++ wMo cy a0 a1 a2 a3 a4 a5 a6 mo)) (W2 := wO cy oa f (wSp cy xa sa sb tr na ka Z2 ++ wMo cy a0 a1 a2 a3 a4 a5 a6 M2.2)) cM hCF gL_law_X9_firstDue rfl hd_X9_firstDue ⟨rfl, rfl, Nat.le_of_ble_eq_true rfl, Nat.le_of_ble_eq_true rfl⟩ hG hP hD hS hA (h_wL rfl h_Mo) rfl rfl (List.mem_cons_of_mem _ (List.mem_append_right _ (List.mem_of_getElem? g_Mo_0))) rfl hl.1 rfl (Nat.le_of_ble_eq_true rfl) dL_law_1763 ⟨by show cells ≤ 601024; omega, by show slots ≤ 7293034; omega⟩ (fun H locs hP hD hS => ?_)
  refine lv_icmp_eq (tgt := 2164) hx hb dL_law_1766 (by decide) (fun _ => ?_) (fun q => absurd ag.2 q)
  refine W.widen (Nat.le_succ _) (Nat.le_add_right _ 6) ?_
  exact kk _ _ _ _ _ _ hl ag.1 hP hD hS
set_option maxRecDepth 20000 in
theorem w_cheapest {p : Program} {l : Launch} {e : Env} {s : State} {m : MethodId} {below : List Frame} {meth : Method} {c : Code} {b L : Nat} {xs : Nat → Int32} {D : va_G} {cy : Nat → ClassId} {t : FxA} {A : Nat → Prop} {Q : State → Prop} {xa sa sb tr na : Nat → Nat} {ka : Nat → Nat → Nat} {a0 a1 a2 a3 a4 a5 a6 oa : Nat} (C0 : LC p l s m meth c b L xs D cy t A) {n : Nat} (hn : n + 5 ≤ L) (hL : L ≤ 2560) {cells slots : Nat} (hc : cells + 1 ≤ 601024) (hs : slots + 6 ≤ 7293034) {T : Int} (hT0 : 100000 ≤ T) (hT : T ≤ 1000000) {H : Heap} {locs : List Loc} {ls : Array Slot} {z : SpT} {mo : MoT} {f : Nat → Int64}
    (hl : lv_has ls 7 [(0, .ref b), (1, .ref (xa 0)), (2, .ref a0), (3, .ref oa), (4, .int (nI n))]) (h : PR T z mo) (hP : va_P D vwCl (wO cy oa f (wSp cy xa sa sb tr na ka z ++ wMo cy a0 a1 a2 a3 a4 a5 a6 mo)) H) (hD : va_D A (wO cy oa f (wSp cy xa sa sb tr na ka z ++ wMo cy a0 a1 a2 a3 a4 a5 a6 mo))) (hS : va_S A s.heap H locs)
    (kk : ∀ (ls : Array Slot) (H : Heap) (locs : List Loc) (z : SpT) (mo : MoT) (f : Nat → Int64), lv_has ls 7 [(0, .ref b), (1, .ref (xa 0)), (2, .ref a0), (3, .ref oa), (4, .int (nI n))] → PR (T + 99) z mo → va_P D vwCl (wO cy oa f (wSp cy xa sa sb tr na ka z ++ wMo cy a0 a1 a2 a3 a4 a5 a6 mo)) H → va_D A (wO cy oa f (wSp cy xa sa sb tr na ka z ++ wMo cy a0 a1 a2 a3 a4 a5 a6 mo)) → va_S A s.heap H locs → Wx p l e room_1 s m #[Value.ref b] below meth c H locs (cells + 1) (slots + 6) Q (F0 m 2164 ls [])) : Wx p l e room_1 s m #[Value.ref b] below meth c H locs cells slots Q (F0 m 1771 ls []) := by
  obtain ⟨hx, hb, hCF, hG, hF, hX, hbl, hbA, hA, hl0, hown⟩ := C0
  refine lv_aload_n hx hb dL_law_1771 rfl (lv_at hl 1 rfl) ?_
  refine lv_aload_n hx hb dL_law_1772 rfl (lv_at hl 0 rfl) ?_
  refine lv_iload hx hb dL_law_1773 (lv_at hl 4 rfl) ?_
  refine lv_iconst (v := (1 : Int32)) hx hb dL_law_1775 (by decide) ?_
  refine lv_iadd hx hb dL_law_1776 ?_
  refine va_sld hx hb hX hbl hbA hS (si_in (k := 1) (by omega) hL i_k1) dL_law_1777 ?_
  refine lv_aload_n hx hb dL_law_1778 rfl (lv_at hl 0 rfl) ?_
  refine lv_iload hx hb dL_law_1779 (lv_at hl 4 rfl) ?_
  refine lv_iconst (v := (2 : Int32)) hx hb dL_law_1781 (by decide) ?_
  refine lv_iadd hx hb dL_law_1782 ?_
  refine va_sld hx hb hX hbl hbA hS (si_in (k := 2) (by omega) hL i_k2) dL_law_1783 ?_
  refine lv_aload_n hx hb dL_law_1784 rfl (lv_at hl 3 rfl) ?_
  have ag := ag_cheapest (x1 := (xs (nI n + 1).toNatClampNeg)) (x2 := (xs (nI n + 2).toNatClampNeg)) h
  have cL := (c_L_cheapest l hl0 D cy t xa sa sb tr na ka oa f h (xs (nI n + 1).toNatClampNeg) (xs (nI n + 2).toNatClampNeg) (ag_k ag)).ctx (r := wMo cy a0 a1 a2 a3 a4 a5 a6 mo) wO_app wO_app
  have cM := ((c_X9_cheapest l D cy a0 a1 a2 a3 a4 a5 a6 mo (xs (nI n + 1).toNatClampNeg) (xs (nI n + 2).toNatClampNeg) h.ro).ctx (r := wO cy oa (oV f (m_X8_cheapest z (xs (nI n + 1).toNatClampNeg) (xs (nI n + 2).toNatClampNeg)).1 (m_X8_cheapest z (xs (nI n + 1).toNatClampNeg) (xs (nI n + 2).toNatClampNeg)).2.1) (wSp cy xa sa sb tr na ka (m_X8_cheapest z (xs (nI n + 1).toNatClampNeg) (xs (nI n + 2).toNatClampNeg)).2.2)) wO_app2 wO_app2)
  generalize m_X8_cheapest z (xs (nI n + 1).toNatClampNeg) (xs (nI n + 2).toNatClampNeg) = C2 at *
  generalize m_X9_cheapest mo (xs (nI n + 1).toNatClampNeg) (xs (nI n + 2).toNatClampNeg) = M2 at *
  refine hxS (A0 := A) (As := [.ref (xa 0), .int (xs (nI n + 1).toNatClampNeg), .int (xs (nI n + 2).toNatClampNeg), .ref oa]) (rest := []) (W1 := wO cy oa f (wSp cy xa sa sb tr na ka z ++ wMo cy a0 a1 a2 a3 a4 a5 a6 mo)) (W2 := wO cy oa (oV f C2.1 C2.2.1) (wSp cy xa sa sb tr na ka C2.2.2 ++ wMo cy a0 a1 a2 a3 a4 a5 a6 mo)) cL hCF gL_law_L_cheapest rfl hq_L_cheapest ⟨Nat.le_of_ble_eq_true rfl, Nat.le_of_ble_eq_true rfl⟩ hG hF hP hD hS hA (h_wL h_Sp rfl) rfl hl.1 rfl (Nat.le_of_ble_eq_true rfl) dL_law_1785 ⟨hc, hs⟩ (fun H locs hP hD hS => ?_)
  refine lv_istore (lv' := (5, .int (mR M2.2)) :: [(0, .ref b), (1, .ref (xa 0)), (2, .ref a0), (3, .ref oa), (4, .int (nI n))]) hx hb dL_law_1788 hl (by decide) rfl (fun ls hl => ?_)
  refine lv_aload_n hx hb dL_law_1790 rfl (lv_at hl 3 rfl) ?_
  refine lv_aload_n hx hb dL_law_1791 rfl (lv_at hl 1 rfl) ?_
  refine lv_iload hx hb dL_law_1792 (lv_at hl 5 rfl) ?_
  refine lv_iconst (v := (1 : Int32)) hx hb dL_law_1794 (by decide) ?_
  refine lv_iadd hx hb dL_law_1795 ?_
  refine va_sld hx hb hX hbl hbA hS (si_in (k := 1) (by omega) hL i_k1) dL_law_1796 ?_
  refine lv_aload_n hx hb dL_law_1797 rfl (lv_at hl 1 rfl) ?_
  refine lv_iload hx hb dL_law_1798 (lv_at hl 5 rfl) ?_
  refine lv_iconst (v := (2 : Int32)) hx hb dL_law_1800 (by decide) ?_
  refine lv_iadd hx hb dL_law_1801 ?_
  refine va_sld hx hb hX hbl hbA hS (si_in (k := 2) (by omega) hL i_k2) dL_law_1802 ?_
  refine mwV (ci := 7) (A0 := A) (As := [.int (xs (nI n + 1).toNatClampNeg), .int (xs (nI n + 2).toNatClampNeg)]) (rest := []) (W1 := wO cy oa (oV f C2.1 C2.2.1) (wSp cy xa sa sb tr na ka C2.2.2 ++ wMo cy a0 a1 a2 a3 a4 a5 a6 mo)) (W2 := wO cy oa (oV f C2.1 C2.2.1) (wSp cy xa sa sb tr na ka C2.2.2 ++ wMo cy a0 a1 a2 a3 a4 a5 a6 M2.2)) cM hCF gL_law_X9_cheapest rfl hd_X9_cheapest ⟨rfl, rfl, Nat.le_of_ble_eq_true rfl, Nat.le_of_ble_eq_true rfl⟩ hG hP hD hS hA (h_wL rfl h_Mo) rfl rfl (List.mem_cons_of_mem _ (List.mem_append_right _ (List.mem_of_getElem? g_Mo_0))) rfl hl.1 rfl (Nat.le_of_ble_eq_true rfl) dL_law_1803 ⟨hc, hs⟩ (fun H locs hP hD hS => ?_)
  refine lv_istore (lv' := (6, .int M2.1) :: (5, .int (mR M2.2)) :: [(0, .ref b), (1, .ref (xa 0)), (2, .ref a0), (3, .ref oa), (4, .int (nI n))]) hx hb dL_law_1806 hl (by decide) rfl (fun ls hl => ?_)
  refine lv_aload_n hx hb dL_law_1808 rfl (lv_at hl 4 rfl) ?_
  refine rwV (ci := 7) (As := []) (rest := []) (W1 := wO cy oa (oV f C2.1 C2.2.1) (wSp cy xa sa sb tr na ka C2.2.2 ++ wMo cy a0 a1 a2 a3 a4 a5 a6 M2.2)) ((c_X9_thrown l D cy a0 a1 a2 a3 a4 a5 a6 M2.2).ctx (r := wO cy oa (oV f C2.1 C2.2.1) (wSp cy xa sa sb tr na ka C2.2.2)) wO_app2) hCF gL_law_X9_thrown rfl hd_X9_thrown ⟨rfl, rfl, Nat.le_of_ble_eq_true rfl, Nat.le_of_ble_eq_true rfl⟩ hG hP rfl rfl (List.mem_cons_of_mem _ (List.mem_append_right _ (List.mem_of_getElem? g_Mo_0))) rfl hl.1 rfl (Nat.le_of_ble_eq_true rfl) dL_law_1809 ⟨hc, hs⟩ ?_
  refine lv_iload hx hb dL_law_1812 (lv_at hl 1 rfl) ?_
  refine lv_icmp_eq (tgt := 1819) hx hb dL_law_1814 (by decide) (fun _ => ?_) (fun q => absurd rfl q)
  refine lv_iload hx hb dL_law_1819 (lv_at hl 1 rfl) ?_
  refine lv_if_ne (tgt := 1836) hx hb dL_law_1821 (by decide) (fun _ => ?_) (fun k0 => ?_)
  · refine lv_goto (tgt := 2164) hx hb dL_law_1836 (by decide) ?_
    exact kk _ _ _ _ _ _ (kl_sub hl) ag.1 hP hD hS
  refine lv_aload_n hx hb dL_law_1824 rfl (lv_at hl 5 rfl) ?_
  refine lv_iconst (v := (0 : Int32)) hx hb dL_law_1825 (by decide) ?_
  refine va_lald hx hb hG.1 hP 0 3 rfl rfl (bd_of (by decide) (by decide)) dL_law_1826 ?_
  refine lv_iload hx hb dL_law_1827 (lv_at hl 0 rfl) ?_
  refine lv_i2l hx hb dL_law_1829 rfl ?_
  refine W.lcmp hx hb dL_law_1830 ?_
  have av := ag_v ag nz_ee k0
  refine lv_if_eq (tgt := 1836) hx hb dL_law_1831 (by decide) (fun _ => ?_) (fun q => absurd (lg_same ((oV_get av.1).trans (congrArg Int32.toInt64 av.2))) q)
  refine lv_goto (tgt := 2164) hx hb dL_law_1836 (by decide) ?_
  exact kk _ _ _ _ _ _ (kl_sub hl) ag.1 hP hD hS
set_option maxRecDepth 20000 in
theorem w_inDebt {p : Program} {l : Launch} {e : Env} {s : State} {m : MethodId} {below : List Frame} {meth : Method} {c : Code} {b L : Nat} {xs : Nat → Int32} {D : va_G} {cy : Nat → ClassId} {t : FxA} {A : Nat → Prop} {Q : State → Prop} {xa sa sb tr na : Nat → Nat} {ka : Nat → Nat → Nat} {a0 a1 a2 a3 a4 a5 a6 oa : Nat} (C0 : LC p l s m meth c b L xs D cy t A) {n : Nat} (hn : n + 5 ≤ L) (hL : L ≤ 2560) {cells slots : Nat} (hc : cells + 1 ≤ 601024) (hs : slots + 6 ≤ 7293034) {T : Int} (hT0 : 100000 ≤ T) (hT : T ≤ 1000000) {H : Heap} {locs : List Loc} {ls : Array Slot} {z : SpT} {mo : MoT} {f : Nat → Int64}
    (hl : lv_has ls 7 [(0, .ref b), (1, .ref (xa 0)), (2, .ref a0), (3, .ref oa), (4, .int (nI n))]) (h : PR T z mo) (hP : va_P D vwCl (wO cy oa f (wSp cy xa sa sb tr na ka z ++ wMo cy a0 a1 a2 a3 a4 a5 a6 mo)) H) (hD : va_D A (wO cy oa f (wSp cy xa sa sb tr na ka z ++ wMo cy a0 a1 a2 a3 a4 a5 a6 mo))) (hS : va_S A s.heap H locs)
    (kk : ∀ (ls : Array Slot) (H : Heap) (locs : List Loc) (z : SpT) (mo : MoT) (f : Nat → Int64), lv_has ls 7 [(0, .ref b), (1, .ref (xa 0)), (2, .ref a0), (3, .ref oa), (4, .int (nI n))] → PR (T + 99) z mo → va_P D vwCl (wO cy oa f (wSp cy xa sa sb tr na ka z ++ wMo cy a0 a1 a2 a3 a4 a5 a6 mo)) H → va_D A (wO cy oa f (wSp cy xa sa sb tr na ka z ++ wMo cy a0 a1 a2 a3 a4 a5 a6 mo)) → va_S A s.heap H locs → Wx p l e room_1 s m #[Value.ref b] below meth c H locs (cells + 1) (slots + 6) Q (F0 m 2164 ls [])) : Wx p l e room_1 s m #[Value.ref b] below meth c H locs cells slots Q (F0 m 1839 ls []) := by
  obtain ⟨hx, hb, hCF, hG, hF, hX, hbl, hbA, hA, hl0, hown⟩ := C0
  refine lv_aload_n hx hb dL_law_1839 rfl (lv_at hl 1 rfl) ?_
  have ag := ag_inDebt h (by omega)
  have cC := (c_X8_inDebt l D cy xa sa sb tr na ka z h.st).ctx (r := (oa, .inl (cy 3, 1, .inr (.inl f))) :: wMo cy a0 a1 a2 a3 a4 a5 a6 mo) (wO_app3 (f := f)) (wO_app3 (f := f))
  have cM := (c_X9_inDebt l D cy a0 a1 a2 a3 a4 a5 a6 mo h.ro).ctx (r := wO cy oa f (wSp cy xa sa sb tr na ka ((m_X8_inDebt z).2))) wO_app2 wO_app2
  generalize (m_X8_inDebt z).2 = Z2 at *
  generalize (m_X8_inDebt z).1 = V2 at *
  generalize m_X9_inDebt mo = M2 at *
  refine mwV (ci := 6) (A0 := A) (As := []) (rest := []) (W1 := wO cy oa f (wSp cy xa sa sb tr na ka z ++ wMo cy a0 a1 a2 a3 a4 a5 a6 mo)) (W2 := wO cy oa f (wSp cy xa sa sb tr na ka Z2 ++ wMo cy a0 a1 a2 a3 a4 a5 a6 mo)) cC hCF gL_law_X8_inDebt rfl hd_X8_inDebt ⟨rfl, rfl, Nat.le_of_ble_eq_true rfl, Nat.le_of_ble_eq_true rfl⟩ hG hP hD hS hA (h_wL h_Sp rfl) rfl rfl (List.mem_cons_of_mem _ (List.mem_append_left _ (List.mem_of_getElem? g_Sp_0))) rfl hl.1 rfl (Nat.le_of_ble_eq_true rfl) dL_law_1840 ⟨by show cells ≤ 601024; omega, by show slots ≤ 7293034; omega⟩ (fun H locs hP hD hS => ?_)
  refine lv_aload_n hx hb dL_law_1843 rfl (lv_at hl 2 rfl) ?_
  refine mwV (ci := 7) (A0 := A) (As := []) (rest := [.int V2]) (W1 := wO cy oa f (wSp cy xa sa sb tr na ka Z2 ++ wMo cy a0 a1 a2 a3 a4 a5 a6 mo)) (W2 := wO cy oa f (wSp cy xa sa sb tr na ka Z2 ++ wMo cy a0 a1 a2 a3 a4 a5 a6 M2.2)) cM hCF gL_law_X9_inDebt rfl hd_X9_inDebt ⟨rfl, rfl, Nat.le_of_ble_eq_true rfl, Nat.le_of_ble_eq_true rfl⟩ hG hP hD hS hA (h_wL rfl h_Mo) rfl rfl (List.mem_cons_of_mem _ (List.mem_append_right _ (List.mem_of_getElem? g_Mo_0))) rfl hl.1 rfl (Nat.le_of_ble_eq_true rfl) dL_law_1844 ⟨by show cells ≤ 601024; omega, by show slots ≤ 7293034; omega⟩ (fun H locs hP hD hS => ?_)
  refine lv_icmp_eq (tgt := 2164) hx hb dL_law_1847 (by decide) (fun _ => ?_) (fun q => absurd ag.2 q)
  refine W.widen (Nat.le_succ _) (Nat.le_add_right _ 6) ?_
  exact kk _ _ _ _ _ _ hl ag.1 hP hD hS
set_option maxRecDepth 20000 in
theorem w_runScript {p : Program} {l : Launch} {e : Env} {s : State} {m : MethodId} {below : List Frame} {meth : Method} {c : Code} {b L : Nat} {xs : Nat → Int32} {D : va_G} {cy : Nat → ClassId} {t : FxA} {A : Nat → Prop} {Q : State → Prop} {xa sa sb tr na : Nat → Nat} {ka : Nat → Nat → Nat} {a0 a1 a2 a3 a4 a5 a6 oa : Nat} (C0 : LC p l s m meth c b L xs D cy t A) {n : Nat} (hn : n + 5 ≤ L) (hL : L ≤ 2560) {cells slots : Nat} (hc : cells + 1 ≤ 601024) (hs : slots + 6 ≤ 7293034) {T : Int} (hT0 : 100000 ≤ T) (hT : T ≤ 1000000) {H : Heap} {locs : List Loc} {ls : Array Slot} {z : SpT} {mo : MoT} {f : Nat → Int64}
    (hl : lv_has ls 7 [(0, .ref b), (1, .ref (xa 0)), (2, .ref a0), (3, .ref oa), (4, .int (nI n))]) (h : PR T z mo) (hP : va_P D vwCl (wO cy oa f (wSp cy xa sa sb tr na ka z ++ wMo cy a0 a1 a2 a3 a4 a5 a6 mo)) H) (hD : va_D A (wO cy oa f (wSp cy xa sa sb tr na ka z ++ wMo cy a0 a1 a2 a3 a4 a5 a6 mo))) (hS : va_S A s.heap H locs)
    (kk : ∀ (ls : Array Slot) (H : Heap) (locs : List Loc) (z : SpT) (mo : MoT) (f : Nat → Int64), lv_has ls 7 [(0, .ref b), (1, .ref (xa 0)), (2, .ref a0), (3, .ref oa), (4, .int (nI n))] → PR (T + 99) z mo → va_P D vwCl (wO cy oa f (wSp cy xa sa sb tr na ka z ++ wMo cy a0 a1 a2 a3 a4 a5 a6 mo)) H → va_D A (wO cy oa f (wSp cy xa sa sb tr na ka z ++ wMo cy a0 a1 a2 a3 a4 a5 a6 mo)) → va_S A s.heap H locs → Wx p l e room_1 s m #[Value.ref b] below meth c H locs (cells + 1) (slots + 6) Q (F0 m 2164 ls [])) : Wx p l e room_1 s m #[Value.ref b] below meth c H locs cells slots Q (F0 m 1852 ls []) := by
  obtain ⟨hx, hb, hCF, hG, hF, hX, hbl, hbA, hA, hl0, hown⟩ := C0
  refine lv_aload_n hx hb dL_law_1852 rfl (lv_at hl 1 rfl) ?_
  refine lv_aload_n hx hb dL_law_1853 rfl (lv_at hl 0 rfl) ?_
  refine lv_iload hx hb dL_law_1854 (lv_at hl 4 rfl) ?_
  refine lv_iconst (v := (1 : Int32)) hx hb dL_law_1856 (by decide) ?_
  refine lv_iadd hx hb dL_law_1857 ?_
  refine va_sld hx hb hX hbl hbA hS (si_in (k := 1) (by omega) hL i_k1) dL_law_1858 ?_
  refine lv_aload_n hx hb dL_law_1859 rfl (lv_at hl 0 rfl) ?_
  refine lv_iload hx hb dL_law_1860 (lv_at hl 4 rfl) ?_
  refine lv_iconst (v := (2 : Int32)) hx hb dL_law_1862 (by decide) ?_
  refine lv_iadd hx hb dL_law_1863 ?_
  refine va_sld hx hb hX hbl hbA hS (si_in (k := 2) (by omega) hL i_k2) dL_law_1864 ?_
  refine lv_i2l hx hb dL_law_1865 rfl ?_
  refine lv_bipush (v := (32 : Int32)) hx hb dL_law_1866 (by decide) ?_
  refine lv_lshl (v := ((xs (nI n + 2).toNatClampNeg).toInt64 <<< ((32 : Int32).toInt64 &&& 63))) hx hb dL_law_1868 rfl ?_
  refine lv_aload_n hx hb dL_law_1869 rfl (lv_at hl 0 rfl) ?_
  refine lv_iload hx hb dL_law_1870 (lv_at hl 4 rfl) ?_
  refine lv_iconst (v := (3 : Int32)) hx hb dL_law_1872 (by decide) ?_
  refine lv_iadd hx hb dL_law_1873 ?_
  refine va_sld hx hb hX hbl hbA hS (si_in (k := 3) (by omega) hL i_k3) dL_law_1874 ?_
  refine lv_i2l hx hb dL_law_1875 rfl ?_
  refine lv_ldc2 (v := (4294967295 : Int64)) hx hb hown (hCF.2.2.2.2 (Cond.constantLong RL 208 (4294967295)) kl_word) dL_law_1876 ?_
  refine lv_land hx hb dL_law_1879 ?_
  refine lv_lor hx hb dL_law_1880 ?_
  refine lv_aload_n hx hb dL_law_1881 rfl (lv_at hl 3 rfl) ?_
  have ag := ag_runScript (x1 := (xs (nI n + 1).toNatClampNeg)) (s := (((xs (nI n + 2).toNatClampNeg).toInt64 <<< ((32 : Int32).toInt64 &&& 63)) ||| ((xs (nI n + 3).toNatClampNeg).toInt64 &&& (4294967295 : Int64)))) h (by omega)
  have cL := (c_L_runScript l hl0 D cy t xa sa sb tr na ka oa f h (xs (nI n + 1).toNatClampNeg) (((xs (nI n + 2).toNatClampNeg).toInt64 <<< ((32 : Int32).toInt64 &&& 63)) ||| ((xs (nI n + 3).toNatClampNeg).toInt64 &&& (4294967295 : Int64))) (ag_k ag)).ctx (r := wMo cy a0 a1 a2 a3 a4 a5 a6 mo) wO_app wO_app
  have cM := ((c_X9_runScript l D cy a0 a1 a2 a3 a4 a5 a6 mo (xs (nI n + 1).toNatClampNeg) (((xs (nI n + 2).toNatClampNeg).toInt64 <<< ((32 : Int32).toInt64 &&& 63)) ||| ((xs (nI n + 3).toNatClampNeg).toInt64 &&& (4294967295 : Int64))) h.ro).ctx (r := wO cy oa (oV f (m_X8_runScript z (xs (nI n + 1).toNatClampNeg) (((xs (nI n + 2).toNatClampNeg).toInt64 <<< ((32 : Int32).toInt64 &&& 63)) ||| ((xs (nI n + 3).toNatClampNeg).toInt64 &&& (4294967295 : Int64)))).1 (m_X8_runScript z (xs (nI n + 1).toNatClampNeg) (((xs (nI n + 2).toNatClampNeg).toInt64 <<< ((32 : Int32).toInt64 &&& 63)) ||| ((xs (nI n + 3).toNatClampNeg).toInt64 &&& (4294967295 : Int64)))).2.1) (wSp cy xa sa sb tr na ka (m_X8_runScript z (xs (nI n + 1).toNatClampNeg) (((xs (nI n + 2).toNatClampNeg).toInt64 <<< ((32 : Int32).toInt64 &&& 63)) ||| ((xs (nI n + 3).toNatClampNeg).toInt64 &&& (4294967295 : Int64)))).2.2)) wO_app2 wO_app2)
  generalize m_X8_runScript z (xs (nI n + 1).toNatClampNeg) (((xs (nI n + 2).toNatClampNeg).toInt64 <<< ((32 : Int32).toInt64 &&& 63)) ||| ((xs (nI n + 3).toNatClampNeg).toInt64 &&& (4294967295 : Int64))) = C2 at *
  generalize m_X9_runScript mo (xs (nI n + 1).toNatClampNeg) (((xs (nI n + 2).toNatClampNeg).toInt64 <<< ((32 : Int32).toInt64 &&& 63)) ||| ((xs (nI n + 3).toNatClampNeg).toInt64 &&& (4294967295 : Int64))) = M2 at *
  refine hxS (A0 := A) (As := [.ref (xa 0), .int (xs (nI n + 1).toNatClampNeg), .long (((xs (nI n + 2).toNatClampNeg).toInt64 <<< ((32 : Int32).toInt64 &&& 63)) ||| ((xs (nI n + 3).toNatClampNeg).toInt64 &&& (4294967295 : Int64))), .ref oa]) (rest := []) (W1 := wO cy oa f (wSp cy xa sa sb tr na ka z ++ wMo cy a0 a1 a2 a3 a4 a5 a6 mo)) (W2 := wO cy oa (oV f C2.1 C2.2.1) (wSp cy xa sa sb tr na ka C2.2.2 ++ wMo cy a0 a1 a2 a3 a4 a5 a6 mo)) cL hCF gL_law_L_runScript rfl hq_L_runScript ⟨Nat.le_of_ble_eq_true rfl, Nat.le_of_ble_eq_true rfl⟩ hG hF hP hD hS hA (h_wL h_Sp rfl) rfl hl.1 rfl (Nat.le_of_ble_eq_true rfl) dL_law_1882 ⟨hc, hs⟩ (fun H locs hP hD hS => ?_)
  refine lv_istore (lv' := (5, .int (mR M2.2)) :: [(0, .ref b), (1, .ref (xa 0)), (2, .ref a0), (3, .ref oa), (4, .int (nI n))]) hx hb dL_law_1885 hl (by decide) rfl (fun ls hl => ?_)
  refine lv_aload_n hx hb dL_law_1887 rfl (lv_at hl 3 rfl) ?_
  refine lv_aload_n hx hb dL_law_1888 rfl (lv_at hl 1 rfl) ?_
  refine lv_iload hx hb dL_law_1889 (lv_at hl 5 rfl) ?_
  refine lv_iconst (v := (1 : Int32)) hx hb dL_law_1891 (by decide) ?_
  refine lv_iadd hx hb dL_law_1892 ?_
  refine va_sld hx hb hX hbl hbA hS (si_in (k := 1) (by omega) hL i_k1) dL_law_1893 ?_
  refine lv_aload_n hx hb dL_law_1894 rfl (lv_at hl 1 rfl) ?_
  refine lv_iload hx hb dL_law_1895 (lv_at hl 5 rfl) ?_
  refine lv_iconst (v := (2 : Int32)) hx hb dL_law_1897 (by decide) ?_
  refine lv_iadd hx hb dL_law_1898 ?_
  refine va_sld hx hb hX hbl hbA hS (si_in (k := 2) (by omega) hL i_k2) dL_law_1899 ?_
  refine lv_i2l hx hb dL_law_1900 rfl ?_
  refine lv_bipush (v := (32 : Int32)) hx hb dL_law_1901 (by decide) ?_
  refine lv_lshl (v := ((xs (nI n + 2).toNatClampNeg).toInt64 <<< ((32 : Int32).toInt64 &&& 63))) hx hb dL_law_1903 rfl ?_
  refine lv_aload_n hx hb dL_law_1904 rfl (lv_at hl 1 rfl) ?_
  refine lv_iload hx hb dL_law_1905 (lv_at hl 5 rfl) ?_
  refine lv_iconst (v := (3 : Int32)) hx hb dL_law_1907 (by decide) ?_
  refine lv_iadd hx hb dL_law_1908 ?_
  refine va_sld hx hb hX hbl hbA hS (si_in (k := 3) (by omega) hL i_k3) dL_law_1909 ?_
  refine lv_i2l hx hb dL_law_1910 rfl ?_
  refine lv_ldc2 (v := (4294967295 : Int64)) hx hb hown (hCF.2.2.2.2 (Cond.constantLong RL 208 (4294967295)) kl_word) dL_law_1911 ?_
  refine lv_land hx hb dL_law_1914 ?_
  refine lv_lor hx hb dL_law_1915 ?_
  refine mwV (ci := 7) (A0 := A) (As := [.int (xs (nI n + 1).toNatClampNeg), .long (((xs (nI n + 2).toNatClampNeg).toInt64 <<< ((32 : Int32).toInt64 &&& 63)) ||| ((xs (nI n + 3).toNatClampNeg).toInt64 &&& (4294967295 : Int64)))]) (rest := []) (W1 := wO cy oa (oV f C2.1 C2.2.1) (wSp cy xa sa sb tr na ka C2.2.2 ++ wMo cy a0 a1 a2 a3 a4 a5 a6 mo)) (W2 := wO cy oa (oV f C2.1 C2.2.1) (wSp cy xa sa sb tr na ka C2.2.2 ++ wMo cy a0 a1 a2 a3 a4 a5 a6 M2.2)) cM hCF gL_law_X9_runScript rfl hd_X9_runScript ⟨rfl, rfl, Nat.le_of_ble_eq_true rfl, Nat.le_of_ble_eq_true rfl⟩ hG hP hD hS hA (h_wL rfl h_Mo) rfl rfl (List.mem_cons_of_mem _ (List.mem_append_right _ (List.mem_of_getElem? g_Mo_0))) rfl hl.1 rfl (Nat.le_of_ble_eq_true rfl) dL_law_1916 ⟨hc, hs⟩ (fun H locs hP hD hS => ?_)
  refine lv_istore (lv' := (6, .int M2.1) :: (5, .int (mR M2.2)) :: [(0, .ref b), (1, .ref (xa 0)), (2, .ref a0), (3, .ref oa), (4, .int (nI n))]) hx hb dL_law_1919 hl (by decide) rfl (fun ls hl => ?_)
  refine lv_aload_n hx hb dL_law_1921 rfl (lv_at hl 4 rfl) ?_
  refine rwV (ci := 7) (As := []) (rest := []) (W1 := wO cy oa (oV f C2.1 C2.2.1) (wSp cy xa sa sb tr na ka C2.2.2 ++ wMo cy a0 a1 a2 a3 a4 a5 a6 M2.2)) ((c_X9_thrown l D cy a0 a1 a2 a3 a4 a5 a6 M2.2).ctx (r := wO cy oa (oV f C2.1 C2.2.1) (wSp cy xa sa sb tr na ka C2.2.2)) wO_app2) hCF gL_law_X9_thrown rfl hd_X9_thrown ⟨rfl, rfl, Nat.le_of_ble_eq_true rfl, Nat.le_of_ble_eq_true rfl⟩ hG hP rfl rfl (List.mem_cons_of_mem _ (List.mem_append_right _ (List.mem_of_getElem? g_Mo_0))) rfl hl.1 rfl (Nat.le_of_ble_eq_true rfl) dL_law_1922 ⟨hc, hs⟩ ?_
  refine lv_iload hx hb dL_law_1925 (lv_at hl 1 rfl) ?_
  refine lv_icmp_eq (tgt := 1932) hx hb dL_law_1927 (by decide) (fun _ => ?_) (fun q => absurd rfl q)
  refine lv_iload hx hb dL_law_1932 (lv_at hl 1 rfl) ?_
  refine lv_if_ne (tgt := 1949) hx hb dL_law_1934 (by decide) (fun _ => ?_) (fun k0 => ?_)
  · refine lv_goto (tgt := 2164) hx hb dL_law_1949 (by decide) ?_
    exact kk _ _ _ _ _ _ (kl_sub hl) ag.1 hP hD hS
  refine lv_aload_n hx hb dL_law_1937 rfl (lv_at hl 5 rfl) ?_
  refine lv_iconst (v := (0 : Int32)) hx hb dL_law_1938 (by decide) ?_
  refine va_lald hx hb hG.1 hP 0 3 rfl rfl (bd_of (by decide) (by decide)) dL_law_1939 ?_
  refine lv_iload hx hb dL_law_1940 (lv_at hl 0 rfl) ?_
  refine lv_i2l hx hb dL_law_1942 rfl ?_
  refine W.lcmp hx hb dL_law_1943 ?_
  have av := ag_v ag nz_ec k0
  refine lv_if_eq (tgt := 1949) hx hb dL_law_1944 (by decide) (fun _ => ?_) (fun q => absurd (lg_same ((oV_get av.1).trans (congrArg Int32.toInt64 av.2))) q)
  refine lv_goto (tgt := 2164) hx hb dL_law_1949 (by decide) ?_
  exact kk _ _ _ _ _ _ (kl_sub hl) ag.1 hP hD hS
set_option maxRecDepth 20000 in
theorem w_simulate {p : Program} {l : Launch} {e : Env} {s : State} {m : MethodId} {below : List Frame} {meth : Method} {c : Code} {b L : Nat} {xs : Nat → Int32} {D : va_G} {cy : Nat → ClassId} {t : FxA} {A : Nat → Prop} {Q : State → Prop} {xa sa sb tr na : Nat → Nat} {ka : Nat → Nat → Nat} {a0 a1 a2 a3 a4 a5 a6 oa : Nat} (C0 : LC p l s m meth c b L xs D cy t A) {n : Nat} (hn : n + 5 ≤ L) (hL : L ≤ 2560) {cells slots : Nat} (hc : cells + 1 ≤ 601024) (hs : slots + 6 ≤ 7293034) {T : Int} (hT0 : 100000 ≤ T) (hT : T ≤ 1000000) {H : Heap} {locs : List Loc} {ls : Array Slot} {z : SpT} {mo : MoT} {f : Nat → Int64}
    (hl : lv_has ls 7 [(0, .ref b), (1, .ref (xa 0)), (2, .ref a0), (3, .ref oa), (4, .int (nI n))]) (h : PR T z mo) (hP : va_P D vwCl (wO cy oa f (wSp cy xa sa sb tr na ka z ++ wMo cy a0 a1 a2 a3 a4 a5 a6 mo)) H) (hD : va_D A (wO cy oa f (wSp cy xa sa sb tr na ka z ++ wMo cy a0 a1 a2 a3 a4 a5 a6 mo))) (hS : va_S A s.heap H locs)
    (kk : ∀ (ls : Array Slot) (H : Heap) (locs : List Loc) (z : SpT) (mo : MoT) (f : Nat → Int64), lv_has ls 7 [(0, .ref b), (1, .ref (xa 0)), (2, .ref a0), (3, .ref oa), (4, .int (nI n))] → PR (T + 99) z mo → va_P D vwCl (wO cy oa f (wSp cy xa sa sb tr na ka z ++ wMo cy a0 a1 a2 a3 a4 a5 a6 mo)) H → va_D A (wO cy oa f (wSp cy xa sa sb tr na ka z ++ wMo cy a0 a1 a2 a3 a4 a5 a6 mo)) → va_S A s.heap H locs → Wx p l e room_1 s m #[Value.ref b] below meth c H locs (cells + 1) (slots + 6) Q (F0 m 2164 ls [])) : Wx p l e room_1 s m #[Value.ref b] below meth c H locs cells slots Q (F0 m 1952 ls []) := by
  obtain ⟨hx, hb, hCF, hG, hF, hX, hbl, hbA, hA, hl0, hown⟩ := C0
  refine lv_aload_n hx hb dL_law_1952 rfl (lv_at hl 1 rfl) ?_
  refine lv_aload_n hx hb dL_law_1953 rfl (lv_at hl 0 rfl) ?_
  refine lv_iload hx hb dL_law_1954 (lv_at hl 4 rfl) ?_
  refine lv_iconst (v := (1 : Int32)) hx hb dL_law_1956 (by decide) ?_
  refine lv_iadd hx hb dL_law_1957 ?_
  refine va_sld hx hb hX hbl hbA hS (si_in (k := 1) (by omega) hL i_k1) dL_law_1958 ?_
  refine lv_i2l hx hb dL_law_1959 rfl ?_
  refine lv_bipush (v := (32 : Int32)) hx hb dL_law_1960 (by decide) ?_
  refine lv_lshl (v := ((xs (nI n + 1).toNatClampNeg).toInt64 <<< ((32 : Int32).toInt64 &&& 63))) hx hb dL_law_1962 rfl ?_
  refine lv_aload_n hx hb dL_law_1963 rfl (lv_at hl 0 rfl) ?_
  refine lv_iload hx hb dL_law_1964 (lv_at hl 4 rfl) ?_
  refine lv_iconst (v := (2 : Int32)) hx hb dL_law_1966 (by decide) ?_
  refine lv_iadd hx hb dL_law_1967 ?_
  refine va_sld hx hb hX hbl hbA hS (si_in (k := 2) (by omega) hL i_k2) dL_law_1968 ?_
  refine lv_i2l hx hb dL_law_1969 rfl ?_
  refine lv_ldc2 (v := (4294967295 : Int64)) hx hb hown (hCF.2.2.2.2 (Cond.constantLong RL 208 (4294967295)) kl_word) dL_law_1970 ?_
  refine lv_land hx hb dL_law_1973 ?_
  refine lv_lor hx hb dL_law_1974 ?_
  refine lv_aload_n hx hb dL_law_1975 rfl (lv_at hl 0 rfl) ?_
  refine lv_iload hx hb dL_law_1976 (lv_at hl 4 rfl) ?_
  refine lv_iconst (v := (3 : Int32)) hx hb dL_law_1978 (by decide) ?_
  refine lv_iadd hx hb dL_law_1979 ?_
  refine va_sld hx hb hX hbl hbA hS (si_in (k := 3) (by omega) hL i_k3) dL_law_1980 ?_
  refine lv_aload_n hx hb dL_law_1981 rfl (lv_at hl 3 rfl) ?_
  have ag := ag_simulate (s := (((xs (nI n + 1).toNatClampNeg).toInt64 <<< ((32 : Int32).toInt64 &&& 63)) ||| ((xs (nI n + 2).toNatClampNeg).toInt64 &&& (4294967295 : Int64)))) (x2 := (xs (nI n + 3).toNatClampNeg)) h (by omega)
  have cL := (c_L_simulate l hl0 D cy t xa sa sb tr na ka oa f h (((xs (nI n + 1).toNatClampNeg).toInt64 <<< ((32 : Int32).toInt64 &&& 63)) ||| ((xs (nI n + 2).toNatClampNeg).toInt64 &&& (4294967295 : Int64))) (xs (nI n + 3).toNatClampNeg) (ag_k ag)).ctx (r := wMo cy a0 a1 a2 a3 a4 a5 a6 mo) wO_app wO_app
  have cM := ((c_X9_simulate l D cy a0 a1 a2 a3 a4 a5 a6 mo (((xs (nI n + 1).toNatClampNeg).toInt64 <<< ((32 : Int32).toInt64 &&& 63)) ||| ((xs (nI n + 2).toNatClampNeg).toInt64 &&& (4294967295 : Int64))) (xs (nI n + 3).toNatClampNeg) h.ro).ctx (r := wO cy oa (oV f (m_X8_simulate z (((xs (nI n + 1).toNatClampNeg).toInt64 <<< ((32 : Int32).toInt64 &&& 63)) ||| ((xs (nI n + 2).toNatClampNeg).toInt64 &&& (4294967295 : Int64))) (xs (nI n + 3).toNatClampNeg)).1 (m_X8_simulate z (((xs (nI n + 1).toNatClampNeg).toInt64 <<< ((32 : Int32).toInt64 &&& 63)) ||| ((xs (nI n + 2).toNatClampNeg).toInt64 &&& (4294967295 : Int64))) (xs (nI n + 3).toNatClampNeg)).2.1) (wSp cy xa sa sb tr na ka (m_X8_simulate z (((xs (nI n + 1).toNatClampNeg).toInt64 <<< ((32 : Int32).toInt64 &&& 63)) ||| ((xs (nI n + 2).toNatClampNeg).toInt64 &&& (4294967295 : Int64))) (xs (nI n + 3).toNatClampNeg)).2.2)) wO_app2 wO_app2)
  generalize m_X8_simulate z (((xs (nI n + 1).toNatClampNeg).toInt64 <<< ((32 : Int32).toInt64 &&& 63)) ||| ((xs (nI n + 2).toNatClampNeg).toInt64 &&& (4294967295 : Int64))) (xs (nI n + 3).toNatClampNeg) = C2 at *
  generalize m_X9_simulate mo (((xs (nI n + 1).toNatClampNeg).toInt64 <<< ((32 : Int32).toInt64 &&& 63)) ||| ((xs (nI n + 2).toNatClampNeg).toInt64 &&& (4294967295 : Int64))) (xs (nI n + 3).toNatClampNeg) = M2 at *
  refine hxS (A0 := A) (As := [.ref (xa 0), .long (((xs (nI n + 1).toNatClampNeg).toInt64 <<< ((32 : Int32).toInt64 &&& 63)) ||| ((xs (nI n + 2).toNatClampNeg).toInt64 &&& (4294967295 : Int64))), .int (xs (nI n + 3).toNatClampNeg), .ref oa]) (rest := []) (W1 := wO cy oa f (wSp cy xa sa sb tr na ka z ++ wMo cy a0 a1 a2 a3 a4 a5 a6 mo)) (W2 := wO cy oa (oV f C2.1 C2.2.1) (wSp cy xa sa sb tr na ka C2.2.2 ++ wMo cy a0 a1 a2 a3 a4 a5 a6 mo)) cL hCF gL_law_L_simulate rfl hq_L_simulate ⟨Nat.le_of_ble_eq_true rfl, Nat.le_of_ble_eq_true rfl⟩ hG hF hP hD hS hA (h_wL h_Sp rfl) rfl hl.1 rfl (Nat.le_of_ble_eq_true rfl) dL_law_1982 ⟨hc, hs⟩ (fun H locs hP hD hS => ?_)
  refine lv_istore (lv' := (5, .int (mR M2.2)) :: [(0, .ref b), (1, .ref (xa 0)), (2, .ref a0), (3, .ref oa), (4, .int (nI n))]) hx hb dL_law_1985 hl (by decide) rfl (fun ls hl => ?_)
  refine lv_aload_n hx hb dL_law_1987 rfl (lv_at hl 3 rfl) ?_
  refine lv_aload_n hx hb dL_law_1988 rfl (lv_at hl 1 rfl) ?_
  refine lv_iload hx hb dL_law_1989 (lv_at hl 5 rfl) ?_
  refine lv_iconst (v := (1 : Int32)) hx hb dL_law_1991 (by decide) ?_
  refine lv_iadd hx hb dL_law_1992 ?_
  refine va_sld hx hb hX hbl hbA hS (si_in (k := 1) (by omega) hL i_k1) dL_law_1993 ?_
  refine lv_i2l hx hb dL_law_1994 rfl ?_
  refine lv_bipush (v := (32 : Int32)) hx hb dL_law_1995 (by decide) ?_
  refine lv_lshl (v := ((xs (nI n + 1).toNatClampNeg).toInt64 <<< ((32 : Int32).toInt64 &&& 63))) hx hb dL_law_1997 rfl ?_
  refine lv_aload_n hx hb dL_law_1998 rfl (lv_at hl 1 rfl) ?_
  refine lv_iload hx hb dL_law_1999 (lv_at hl 5 rfl) ?_
  refine lv_iconst (v := (2 : Int32)) hx hb dL_law_2001 (by decide) ?_
  refine lv_iadd hx hb dL_law_2002 ?_
  refine va_sld hx hb hX hbl hbA hS (si_in (k := 2) (by omega) hL i_k2) dL_law_2003 ?_
  refine lv_i2l hx hb dL_law_2004 rfl ?_
  refine lv_ldc2 (v := (4294967295 : Int64)) hx hb hown (hCF.2.2.2.2 (Cond.constantLong RL 208 (4294967295)) kl_word) dL_law_2005 ?_
  refine lv_land hx hb dL_law_2008 ?_
  refine lv_lor hx hb dL_law_2009 ?_
  refine lv_aload_n hx hb dL_law_2010 rfl (lv_at hl 1 rfl) ?_
  refine lv_iload hx hb dL_law_2011 (lv_at hl 5 rfl) ?_
  refine lv_iconst (v := (3 : Int32)) hx hb dL_law_2013 (by decide) ?_
  refine lv_iadd hx hb dL_law_2014 ?_
  refine va_sld hx hb hX hbl hbA hS (si_in (k := 3) (by omega) hL i_k3) dL_law_2015 ?_
  refine mwV (ci := 7) (A0 := A) (As := [.long (((xs (nI n + 1).toNatClampNeg).toInt64 <<< ((32 : Int32).toInt64 &&& 63)) ||| ((xs (nI n + 2).toNatClampNeg).toInt64 &&& (4294967295 : Int64))), .int (xs (nI n + 3).toNatClampNeg)]) (rest := []) (W1 := wO cy oa (oV f C2.1 C2.2.1) (wSp cy xa sa sb tr na ka C2.2.2 ++ wMo cy a0 a1 a2 a3 a4 a5 a6 mo)) (W2 := wO cy oa (oV f C2.1 C2.2.1) (wSp cy xa sa sb tr na ka C2.2.2 ++ wMo cy a0 a1 a2 a3 a4 a5 a6 M2.2)) cM hCF gL_law_X9_simulate rfl hd_X9_simulate ⟨rfl, rfl, Nat.le_of_ble_eq_true rfl, Nat.le_of_ble_eq_true rfl⟩ hG hP hD hS hA (h_wL rfl h_Mo) rfl rfl (List.mem_cons_of_mem _ (List.mem_append_right _ (List.mem_of_getElem? g_Mo_0))) rfl hl.1 rfl (Nat.le_of_ble_eq_true rfl) dL_law_2016 ⟨hc, hs⟩ (fun H locs hP hD hS => ?_)
  refine lv_istore (lv' := (6, .int M2.1) :: (5, .int (mR M2.2)) :: [(0, .ref b), (1, .ref (xa 0)), (2, .ref a0), (3, .ref oa), (4, .int (nI n))]) hx hb dL_law_2019 hl (by decide) rfl (fun ls hl => ?_)
  refine lv_aload_n hx hb dL_law_2021 rfl (lv_at hl 4 rfl) ?_
  refine rwV (ci := 7) (As := []) (rest := []) (W1 := wO cy oa (oV f C2.1 C2.2.1) (wSp cy xa sa sb tr na ka C2.2.2 ++ wMo cy a0 a1 a2 a3 a4 a5 a6 M2.2)) ((c_X9_thrown l D cy a0 a1 a2 a3 a4 a5 a6 M2.2).ctx (r := wO cy oa (oV f C2.1 C2.2.1) (wSp cy xa sa sb tr na ka C2.2.2)) wO_app2) hCF gL_law_X9_thrown rfl hd_X9_thrown ⟨rfl, rfl, Nat.le_of_ble_eq_true rfl, Nat.le_of_ble_eq_true rfl⟩ hG hP rfl rfl (List.mem_cons_of_mem _ (List.mem_append_right _ (List.mem_of_getElem? g_Mo_0))) rfl hl.1 rfl (Nat.le_of_ble_eq_true rfl) dL_law_2022 ⟨hc, hs⟩ ?_
  refine lv_iload hx hb dL_law_2025 (lv_at hl 1 rfl) ?_
  refine lv_icmp_eq (tgt := 2032) hx hb dL_law_2027 (by decide) (fun _ => ?_) (fun q => absurd rfl q)
  refine lv_iload hx hb dL_law_2032 (lv_at hl 1 rfl) ?_
  refine lv_if_ne (tgt := 2049) hx hb dL_law_2034 (by decide) (fun _ => ?_) (fun k0 => ?_)
  · refine lv_goto (tgt := 2164) hx hb dL_law_2049 (by decide) ?_
    exact kk _ _ _ _ _ _ (kl_sub hl) ag.1 hP hD hS
  refine lv_aload_n hx hb dL_law_2037 rfl (lv_at hl 5 rfl) ?_
  refine lv_iconst (v := (0 : Int32)) hx hb dL_law_2038 (by decide) ?_
  refine va_lald hx hb hG.1 hP 0 3 rfl rfl (bd_of (by decide) (by decide)) dL_law_2039 ?_
  refine lv_iload hx hb dL_law_2040 (lv_at hl 0 rfl) ?_
  refine lv_i2l hx hb dL_law_2042 rfl ?_
  refine W.lcmp hx hb dL_law_2043 ?_
  have av := ag_v ag nz_ec k0
  refine lv_if_eq (tgt := 2049) hx hb dL_law_2044 (by decide) (fun _ => ?_) (fun q => absurd (lg_same ((oV_get av.1).trans (congrArg Int32.toInt64 av.2))) q)
  refine lv_goto (tgt := 2164) hx hb dL_law_2049 (by decide) ?_
  exact kk _ _ _ _ _ _ (kl_sub hl) ag.1 hP hD hS
set_option maxRecDepth 20000 in
theorem w_save {p : Program} {l : Launch} {e : Env} {s : State} {m : MethodId} {below : List Frame} {meth : Method} {c : Code} {b L : Nat} {xs : Nat → Int32} {D : va_G} {cy : Nat → ClassId} {t : FxA} {A : Nat → Prop} {Q : State → Prop} {xa sa sb tr na : Nat → Nat} {ka : Nat → Nat → Nat} {a0 a1 a2 a3 a4 a5 a6 oa : Nat} (C0 : LC p l s m meth c b L xs D cy t A) {n : Nat} (hn : n + 5 ≤ L) (hL : L ≤ 2560) {cells slots : Nat} (hc : cells + 1 ≤ 601024) (hs : slots + 6 ≤ 7293034) {T : Int} (hT0 : 100000 ≤ T) (hT : T ≤ 1000000) {H : Heap} {locs : List Loc} {ls : Array Slot} {z : SpT} {mo : MoT} {f : Nat → Int64}
    (hl : lv_has ls 7 [(0, .ref b), (1, .ref (xa 0)), (2, .ref a0), (3, .ref oa), (4, .int (nI n))]) (h : PR T z mo) (hP : va_P D vwCl (wO cy oa f (wSp cy xa sa sb tr na ka z ++ wMo cy a0 a1 a2 a3 a4 a5 a6 mo)) H) (hD : va_D A (wO cy oa f (wSp cy xa sa sb tr na ka z ++ wMo cy a0 a1 a2 a3 a4 a5 a6 mo))) (hS : va_S A s.heap H locs)
    (kk : ∀ (ls : Array Slot) (H : Heap) (locs : List Loc) (z : SpT) (mo : MoT) (f : Nat → Int64), lv_has ls 7 [(0, .ref b), (1, .ref (xa 0)), (2, .ref a0), (3, .ref oa), (4, .int (nI n))] → PR (T + 99) z mo → va_P D vwCl (wO cy oa f (wSp cy xa sa sb tr na ka z ++ wMo cy a0 a1 a2 a3 a4 a5 a6 mo)) H → va_D A (wO cy oa f (wSp cy xa sa sb tr na ka z ++ wMo cy a0 a1 a2 a3 a4 a5 a6 mo)) → va_S A s.heap H locs → Wx p l e room_1 s m #[Value.ref b] below meth c H locs (cells + 1) (slots + 6) Q (F0 m 2164 ls [])) : Wx p l e room_1 s m #[Value.ref b] below meth c H locs cells slots Q (F0 m 2052 ls []) := by
  obtain ⟨hx, hb, hCF, hG, hF, hX, hbl, hbA, hA, hl0, hown⟩ := C0
  refine lv_aload_n hx hb dL_law_2052 rfl (lv_at hl 1 rfl) ?_
  refine lv_aload_n hx hb dL_law_2053 rfl (lv_at hl 0 rfl) ?_
  refine lv_iload hx hb dL_law_2054 (lv_at hl 4 rfl) ?_
  refine lv_iconst (v := (1 : Int32)) hx hb dL_law_2056 (by decide) ?_
  refine lv_iadd hx hb dL_law_2057 ?_
  refine va_sld hx hb hX hbl hbA hS (si_in (k := 1) (by omega) hL i_k1) dL_law_2058 ?_
  refine lv_aload_n hx hb dL_law_2059 rfl (lv_at hl 3 rfl) ?_
  have ag := ag_save (x1 := (xs (nI n + 1).toNatClampNeg)) h
  have cL := (c_L_save l hl0 D cy t xa sa sb tr na ka oa f h (xs (nI n + 1).toNatClampNeg) (ag_k ag)).ctx (r := wMo cy a0 a1 a2 a3 a4 a5 a6 mo) wO_app wO_app
  have cM := ((c_X9_save l D cy a0 a1 a2 a3 a4 a5 a6 mo (xs (nI n + 1).toNatClampNeg)).ctx (r := wO cy oa (oV f (m_X8_save z (xs (nI n + 1).toNatClampNeg)).1 (m_X8_save z (xs (nI n + 1).toNatClampNeg)).2.1) (wSp cy xa sa sb tr na ka (m_X8_save z (xs (nI n + 1).toNatClampNeg)).2.2)) wO_app2 wO_app2)
  generalize m_X8_save z (xs (nI n + 1).toNatClampNeg) = C2 at *
  generalize m_X9_save mo (xs (nI n + 1).toNatClampNeg) = M2 at *
  refine hxS (A0 := A) (As := [.ref (xa 0), .int (xs (nI n + 1).toNatClampNeg), .ref oa]) (rest := []) (W1 := wO cy oa f (wSp cy xa sa sb tr na ka z ++ wMo cy a0 a1 a2 a3 a4 a5 a6 mo)) (W2 := wO cy oa (oV f C2.1 C2.2.1) (wSp cy xa sa sb tr na ka C2.2.2 ++ wMo cy a0 a1 a2 a3 a4 a5 a6 mo)) cL hCF gL_law_L_save rfl hq_L_save ⟨Nat.le_of_ble_eq_true rfl, Nat.le_of_ble_eq_true rfl⟩ hG hF hP hD hS hA (h_wL h_Sp rfl) rfl hl.1 rfl (Nat.le_of_ble_eq_true rfl) dL_law_2060 ⟨hc, hs⟩ (fun H locs hP hD hS => ?_)
  refine lv_istore (lv' := (5, .int (mR M2.2)) :: [(0, .ref b), (1, .ref (xa 0)), (2, .ref a0), (3, .ref oa), (4, .int (nI n))]) hx hb dL_law_2063 hl (by decide) rfl (fun ls hl => ?_)
  refine lv_aload_n hx hb dL_law_2065 rfl (lv_at hl 3 rfl) ?_
  refine lv_aload_n hx hb dL_law_2066 rfl (lv_at hl 1 rfl) ?_
  refine lv_iload hx hb dL_law_2067 (lv_at hl 5 rfl) ?_
  refine lv_iconst (v := (1 : Int32)) hx hb dL_law_2069 (by decide) ?_
  refine lv_iadd hx hb dL_law_2070 ?_
  refine va_sld hx hb hX hbl hbA hS (si_in (k := 1) (by omega) hL i_k1) dL_law_2071 ?_
  refine mwV (ci := 7) (A0 := A) (As := [.int (xs (nI n + 1).toNatClampNeg)]) (rest := []) (W1 := wO cy oa (oV f C2.1 C2.2.1) (wSp cy xa sa sb tr na ka C2.2.2 ++ wMo cy a0 a1 a2 a3 a4 a5 a6 mo)) (W2 := wO cy oa (oV f C2.1 C2.2.1) (wSp cy xa sa sb tr na ka C2.2.2 ++ wMo cy a0 a1 a2 a3 a4 a5 a6 M2.2)) cM hCF gL_law_X9_save rfl hd_X9_save ⟨rfl, rfl, Nat.le_of_ble_eq_true rfl, Nat.le_of_ble_eq_true rfl⟩ hG hP hD hS hA (h_wL rfl h_Mo) rfl rfl (List.mem_cons_of_mem _ (List.mem_append_right _ (List.mem_of_getElem? g_Mo_0))) rfl hl.1 rfl (Nat.le_of_ble_eq_true rfl) dL_law_2072 ⟨hc, hs⟩ (fun H locs hP hD hS => ?_)
  refine lv_istore (lv' := (6, .int M2.1) :: (5, .int (mR M2.2)) :: [(0, .ref b), (1, .ref (xa 0)), (2, .ref a0), (3, .ref oa), (4, .int (nI n))]) hx hb dL_law_2075 hl (by decide) rfl (fun ls hl => ?_)
  refine lv_aload_n hx hb dL_law_2077 rfl (lv_at hl 4 rfl) ?_
  refine rwV (ci := 7) (As := []) (rest := []) (W1 := wO cy oa (oV f C2.1 C2.2.1) (wSp cy xa sa sb tr na ka C2.2.2 ++ wMo cy a0 a1 a2 a3 a4 a5 a6 M2.2)) ((c_X9_thrown l D cy a0 a1 a2 a3 a4 a5 a6 M2.2).ctx (r := wO cy oa (oV f C2.1 C2.2.1) (wSp cy xa sa sb tr na ka C2.2.2)) wO_app2) hCF gL_law_X9_thrown rfl hd_X9_thrown ⟨rfl, rfl, Nat.le_of_ble_eq_true rfl, Nat.le_of_ble_eq_true rfl⟩ hG hP rfl rfl (List.mem_cons_of_mem _ (List.mem_append_right _ (List.mem_of_getElem? g_Mo_0))) rfl hl.1 rfl (Nat.le_of_ble_eq_true rfl) dL_law_2078 ⟨hc, hs⟩ ?_
  refine lv_iload hx hb dL_law_2081 (lv_at hl 1 rfl) ?_
  refine lv_icmp_eq (tgt := 2088) hx hb dL_law_2083 (by decide) (fun _ => ?_) (fun q => absurd rfl q)
  refine lv_iload hx hb dL_law_2088 (lv_at hl 1 rfl) ?_
  refine lv_if_ne (tgt := 2105) hx hb dL_law_2090 (by decide) (fun _ => ?_) (fun k0 => ?_)
  · refine lv_goto (tgt := 2164) hx hb dL_law_2105 (by decide) ?_
    exact kk _ _ _ _ _ _ (kl_sub hl) ag.1 hP hD hS
  refine lv_aload_n hx hb dL_law_2093 rfl (lv_at hl 5 rfl) ?_
  refine lv_iconst (v := (0 : Int32)) hx hb dL_law_2094 (by decide) ?_
  refine va_lald hx hb hG.1 hP 0 3 rfl rfl (bd_of (by decide) (by decide)) dL_law_2095 ?_
  refine lv_iload hx hb dL_law_2096 (lv_at hl 0 rfl) ?_
  refine lv_i2l hx hb dL_law_2098 rfl ?_
  refine W.lcmp hx hb dL_law_2099 ?_
  have av := ag_v ag nz_ee k0
  refine lv_if_eq (tgt := 2105) hx hb dL_law_2100 (by decide) (fun _ => ?_) (fun q => absurd (lg_same ((oV_get av.1).trans (congrArg Int32.toInt64 av.2))) q)
  refine lv_goto (tgt := 2164) hx hb dL_law_2105 (by decide) ?_
  exact kk _ _ _ _ _ _ (kl_sub hl) ag.1 hP hD hS
set_option maxRecDepth 20000 in
theorem w_restore {p : Program} {l : Launch} {e : Env} {s : State} {m : MethodId} {below : List Frame} {meth : Method} {c : Code} {b L : Nat} {xs : Nat → Int32} {D : va_G} {cy : Nat → ClassId} {t : FxA} {A : Nat → Prop} {Q : State → Prop} {xa sa sb tr na : Nat → Nat} {ka : Nat → Nat → Nat} {a0 a1 a2 a3 a4 a5 a6 oa : Nat} (C0 : LC p l s m meth c b L xs D cy t A) {n : Nat} (hn : n + 5 ≤ L) (hL : L ≤ 2560) {cells slots : Nat} (hc : cells + 1 ≤ 601024) (hs : slots + 6 ≤ 7293034) {T : Int} (hT0 : 100000 ≤ T) (hT : T ≤ 1000000) {H : Heap} {locs : List Loc} {ls : Array Slot} {z : SpT} {mo : MoT} {f : Nat → Int64}
    (hl : lv_has ls 7 [(0, .ref b), (1, .ref (xa 0)), (2, .ref a0), (3, .ref oa), (4, .int (nI n))]) (h : PR T z mo) (hP : va_P D vwCl (wO cy oa f (wSp cy xa sa sb tr na ka z ++ wMo cy a0 a1 a2 a3 a4 a5 a6 mo)) H) (hD : va_D A (wO cy oa f (wSp cy xa sa sb tr na ka z ++ wMo cy a0 a1 a2 a3 a4 a5 a6 mo))) (hS : va_S A s.heap H locs)
    (kk : ∀ (ls : Array Slot) (H : Heap) (locs : List Loc) (z : SpT) (mo : MoT) (f : Nat → Int64), lv_has ls 7 [(0, .ref b), (1, .ref (xa 0)), (2, .ref a0), (3, .ref oa), (4, .int (nI n))] → PR (T + 99) z mo → va_P D vwCl (wO cy oa f (wSp cy xa sa sb tr na ka z ++ wMo cy a0 a1 a2 a3 a4 a5 a6 mo)) H → va_D A (wO cy oa f (wSp cy xa sa sb tr na ka z ++ wMo cy a0 a1 a2 a3 a4 a5 a6 mo)) → va_S A s.heap H locs → Wx p l e room_1 s m #[Value.ref b] below meth c H locs (cells + 1) (slots + 6) Q (F0 m 2164 ls [])) : Wx p l e room_1 s m #[Value.ref b] below meth c H locs cells slots Q (F0 m 2108 ls []) := by
  obtain ⟨hx, hb, hCF, hG, hF, hX, hbl, hbA, hA, hl0, hown⟩ := C0
  refine lv_aload_n hx hb dL_law_2108 rfl (lv_at hl 1 rfl) ?_
  refine lv_aload_n hx hb dL_law_2109 rfl (lv_at hl 0 rfl) ?_
  refine lv_iload hx hb dL_law_2110 (lv_at hl 4 rfl) ?_
  refine lv_iconst (v := (1 : Int32)) hx hb dL_law_2112 (by decide) ?_
  refine lv_iadd hx hb dL_law_2113 ?_
  refine va_sld hx hb hX hbl hbA hS (si_in (k := 1) (by omega) hL i_k1) dL_law_2114 ?_
  refine lv_aload_n hx hb dL_law_2115 rfl (lv_at hl 3 rfl) ?_
  have ag := ag_restore (x1 := (xs (nI n + 1).toNatClampNeg)) h
  have cL := (c_L_restore l hl0 D cy t xa sa sb tr na ka oa f h (xs (nI n + 1).toNatClampNeg) (ag_k ag)).ctx (r := wMo cy a0 a1 a2 a3 a4 a5 a6 mo) wO_app wO_app
  have cM := ((c_X9_restore l D cy a0 a1 a2 a3 a4 a5 a6 mo (xs (nI n + 1).toNatClampNeg)).ctx (r := wO cy oa (oV f (m_X8_restore z (xs (nI n + 1).toNatClampNeg)).1 (m_X8_restore z (xs (nI n + 1).toNatClampNeg)).2.1) (wSp cy xa sa sb tr na ka (m_X8_restore z (xs (nI n + 1).toNatClampNeg)).2.2)) wO_app2 wO_app2)
  generalize m_X8_restore z (xs (nI n + 1).toNatClampNeg) = C2 at *
  generalize m_X9_restore mo (xs (nI n + 1).toNatClampNeg) = M2 at *
  refine hxS (A0 := A) (As := [.ref (xa 0), .int (xs (nI n + 1).toNatClampNeg), .ref oa]) (rest := []) (W1 := wO cy oa f (wSp cy xa sa sb tr na ka z ++ wMo cy a0 a1 a2 a3 a4 a5 a6 mo)) (W2 := wO cy oa (oV f C2.1 C2.2.1) (wSp cy xa sa sb tr na ka C2.2.2 ++ wMo cy a0 a1 a2 a3 a4 a5 a6 mo)) cL hCF gL_law_L_restore rfl hq_L_restore ⟨Nat.le_of_ble_eq_true rfl, Nat.le_of_ble_eq_true rfl⟩ hG hF hP hD hS hA (h_wL h_Sp rfl) rfl hl.1 rfl (Nat.le_of_ble_eq_true rfl) dL_law_2116 ⟨hc, hs⟩ (fun H locs hP hD hS => ?_)
  refine lv_istore (lv' := (5, .int (mR M2.2)) :: [(0, .ref b), (1, .ref (xa 0)), (2, .ref a0), (3, .ref oa), (4, .int (nI n))]) hx hb dL_law_2119 hl (by decide) rfl (fun ls hl => ?_)
  refine lv_aload_n hx hb dL_law_2121 rfl (lv_at hl 3 rfl) ?_
  refine lv_aload_n hx hb dL_law_2122 rfl (lv_at hl 1 rfl) ?_
  refine lv_iload hx hb dL_law_2123 (lv_at hl 5 rfl) ?_
  refine lv_iconst (v := (1 : Int32)) hx hb dL_law_2125 (by decide) ?_
  refine lv_iadd hx hb dL_law_2126 ?_
  refine va_sld hx hb hX hbl hbA hS (si_in (k := 1) (by omega) hL i_k1) dL_law_2127 ?_
  refine mwV (ci := 7) (A0 := A) (As := [.int (xs (nI n + 1).toNatClampNeg)]) (rest := []) (W1 := wO cy oa (oV f C2.1 C2.2.1) (wSp cy xa sa sb tr na ka C2.2.2 ++ wMo cy a0 a1 a2 a3 a4 a5 a6 mo)) (W2 := wO cy oa (oV f C2.1 C2.2.1) (wSp cy xa sa sb tr na ka C2.2.2 ++ wMo cy a0 a1 a2 a3 a4 a5 a6 M2.2)) cM hCF gL_law_X9_restore rfl hd_X9_restore ⟨rfl, rfl, Nat.le_of_ble_eq_true rfl, Nat.le_of_ble_eq_true rfl⟩ hG hP hD hS hA (h_wL rfl h_Mo) rfl rfl (List.mem_cons_of_mem _ (List.mem_append_right _ (List.mem_of_getElem? g_Mo_0))) rfl hl.1 rfl (Nat.le_of_ble_eq_true rfl) dL_law_2128 ⟨hc, hs⟩ (fun H locs hP hD hS => ?_)
  refine lv_istore (lv' := (6, .int M2.1) :: (5, .int (mR M2.2)) :: [(0, .ref b), (1, .ref (xa 0)), (2, .ref a0), (3, .ref oa), (4, .int (nI n))]) hx hb dL_law_2131 hl (by decide) rfl (fun ls hl => ?_)
  refine lv_aload_n hx hb dL_law_2133 rfl (lv_at hl 4 rfl) ?_
  refine rwV (ci := 7) (As := []) (rest := []) (W1 := wO cy oa (oV f C2.1 C2.2.1) (wSp cy xa sa sb tr na ka C2.2.2 ++ wMo cy a0 a1 a2 a3 a4 a5 a6 M2.2)) ((c_X9_thrown l D cy a0 a1 a2 a3 a4 a5 a6 M2.2).ctx (r := wO cy oa (oV f C2.1 C2.2.1) (wSp cy xa sa sb tr na ka C2.2.2)) wO_app2) hCF gL_law_X9_thrown rfl hd_X9_thrown ⟨rfl, rfl, Nat.le_of_ble_eq_true rfl, Nat.le_of_ble_eq_true rfl⟩ hG hP rfl rfl (List.mem_cons_of_mem _ (List.mem_append_right _ (List.mem_of_getElem? g_Mo_0))) rfl hl.1 rfl (Nat.le_of_ble_eq_true rfl) dL_law_2134 ⟨hc, hs⟩ ?_
  refine lv_iload hx hb dL_law_2137 (lv_at hl 1 rfl) ?_
  refine lv_icmp_eq (tgt := 2144) hx hb dL_law_2139 (by decide) (fun _ => ?_) (fun q => absurd rfl q)
  refine lv_iload hx hb dL_law_2144 (lv_at hl 1 rfl) ?_
  refine lv_if_ne (tgt := 2161) hx hb dL_law_2146 (by decide) (fun _ => ?_) (fun k0 => ?_)
  · refine lv_goto (tgt := 2164) hx hb dL_law_2161 (by decide) ?_
    exact kk _ _ _ _ _ _ (kl_sub hl) ag.1 hP hD hS
  refine lv_aload_n hx hb dL_law_2149 rfl (lv_at hl 5 rfl) ?_
  refine lv_iconst (v := (0 : Int32)) hx hb dL_law_2150 (by decide) ?_
  refine va_lald hx hb hG.1 hP 0 3 rfl rfl (bd_of (by decide) (by decide)) dL_law_2151 ?_
  refine lv_iload hx hb dL_law_2152 (lv_at hl 0 rfl) ?_
  refine lv_i2l hx hb dL_law_2154 rfl ?_
  refine W.lcmp hx hb dL_law_2155 ?_
  have av := ag_v ag nz_eb k0
  refine lv_if_eq (tgt := 2161) hx hb dL_law_2156 (by decide) (fun _ => ?_) (fun q => absurd (lg_same ((oV_get av.1).trans (congrArg Int32.toInt64 av.2))) q)
  refine lv_goto (tgt := 2164) hx hb dL_law_2161 (by decide) ?_
  exact kk _ _ _ _ _ _ (kl_sub hl) ag.1 hP hD hS
