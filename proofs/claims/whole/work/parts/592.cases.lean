/-! the cases of the law -/
set_option maxRecDepth 20000 in
theorem w_come {p : Program} {l : Launch} {e : Env} {s : State} {m : MethodId} {below : List Frame} {meth : Method} {c : Code} {b L : Nat} {xs : Nat → Int32} {D : va_G} {cy : Nat → ClassId} {t : FxA} {A : Nat → Prop} {Q : State → Prop} {xa sa sb tr na : Nat → Nat} {ka : Nat → Nat → Nat} {a0 a1 a2 a3 a4 a5 a6 oa : Nat} (C0 : LC p l s m meth c b L xs D cy t A) {n : Nat} (hn : n + 5 ≤ L) (hL : L ≤ 2560) {cells slots : Nat} (hc : cells + 1 ≤ 601024) (hs : slots + 6 ≤ 7293034) {T : Int} (hT0 : 100000 ≤ T) (hT : T ≤ 1000000) {H : Heap} {locs : List Loc} {ls : Array Slot} {z : SpT} {mo : MoT} {f : Nat → Int64}
    (hl : lv_has ls 7 [(0, .ref b), (1, .ref (xa 0)), (2, .ref a0), (3, .ref oa), (4, .int (nI n))]) (h : PR T z mo) (hP : va_P D vwCl (wO cy oa f (wSp cy xa sa sb tr na ka z ++ wMo cy a0 a1 a2 a3 a4 a5 a6 mo)) H) (hD : va_D A (wO cy oa f (wSp cy xa sa sb tr na ka z ++ wMo cy a0 a1 a2 a3 a4 a5 a6 mo))) (hS : va_S A s.heap H locs)
    (kk : ∀ (ls : Array Slot) (H : Heap) (locs : List Loc) (z : SpT) (mo : MoT) (f : Nat → Int64), lv_has ls 7 [(0, .ref b), (1, .ref (xa 0)), (2, .ref a0), (3, .ref oa), (4, .int (nI n))] → PR (T + 99) z mo → va_P D vwCl (wO cy oa f (wSp cy xa sa sb tr na ka z ++ wMo cy a0 a1 a2 a3 a4 a5 a6 mo)) H → va_D A (wO cy oa f (wSp cy xa sa sb tr na ka z ++ wMo cy a0 a1 a2 a3 a4 a5 a6 mo)) → va_S A s.heap H locs → Wx p l e room_1 s m #[Value.ref b] below meth c H locs (cells + 1) (slots + 6) Q (F0 m 2164 ls [])) : Wx p l e room_1 s m #[Value.ref b] below meth c H locs cells slots Q (F0 m 726 ls []) := by
  obtain ⟨hx, hb, hCF, hG, hF, hX, hbl, hbA, hA, hl0, hown⟩ := C0
  refine lv_aload_n hx hb dL_law_726 rfl (lv_at hl 1 rfl) ?_
  refine lv_aload_n hx hb dL_law_727 rfl (lv_at hl 0 rfl) ?_
  refine lv_iload hx hb dL_law_728 (lv_at hl 4 rfl) ?_
  refine lv_iconst (v := (1 : Int32)) hx hb dL_law_730 (by decide) ?_
  refine lv_iadd hx hb dL_law_731 ?_
  refine va_sld hx hb hX hbl hbA hS (si_in (k := 1) (by omega) hL i_k1) dL_law_732 ?_
  refine lv_aload_n hx hb dL_law_733 rfl (lv_at hl 0 rfl) ?_
  refine lv_iload hx hb dL_law_734 (lv_at hl 4 rfl) ?_
  refine lv_iconst (v := (2 : Int32)) hx hb dL_law_736 (by decide) ?_
  refine lv_iadd hx hb dL_law_737 ?_
  refine va_sld hx hb hX hbl hbA hS (si_in (k := 2) (by omega) hL i_k2) dL_law_738 ?_
  refine lv_aload_n hx hb dL_law_739 rfl (lv_at hl 0 rfl) ?_
  refine lv_iload hx hb dL_law_740 (lv_at hl 4 rfl) ?_
  refine lv_iconst (v := (3 : Int32)) hx hb dL_law_742 (by decide) ?_
  refine lv_iadd hx hb dL_law_743 ?_
  refine va_sld hx hb hX hbl hbA hS (si_in (k := 3) (by omega) hL i_k3) dL_law_744 ?_
  refine lv_aload_n hx hb dL_law_745 rfl (lv_at hl 3 rfl) ?_
  have ag := ag_come (x1 := (xs (nI n + 1).toNatClampNeg)) (x2 := (xs (nI n + 2).toNatClampNeg)) (x3 := (xs (nI n + 3).toNatClampNeg)) h (by omega)
  have cL := (c_L_come l hl0 D cy t xa sa sb tr na ka oa f h (xs (nI n + 1).toNatClampNeg) (xs (nI n + 2).toNatClampNeg) (xs (nI n + 3).toNatClampNeg) (ag_k ag)).ctx (r := wMo cy a0 a1 a2 a3 a4 a5 a6 mo) wO_app wO_app
  have cM := ((c_X9_come l D cy a0 a1 a2 a3 a4 a5 a6 mo (xs (nI n + 1).toNatClampNeg) (xs (nI n + 2).toNatClampNeg) (xs (nI n + 3).toNatClampNeg) h.ro h.ac).ctx (r := wO cy oa (oV f (m_X8_come z (xs (nI n + 1).toNatClampNeg) (xs (nI n + 2).toNatClampNeg) (xs (nI n + 3).toNatClampNeg)).1 (m_X8_come z (xs (nI n + 1).toNatClampNeg) (xs (nI n + 2).toNatClampNeg) (xs (nI n + 3).toNatClampNeg)).2.1) (wSp cy xa sa sb tr na ka (m_X8_come z (xs (nI n + 1).toNatClampNeg) (xs (nI n + 2).toNatClampNeg) (xs (nI n + 3).toNatClampNeg)).2.2)) wO_app2 wO_app2)
  generalize m_X8_come z (xs (nI n + 1).toNatClampNeg) (xs (nI n + 2).toNatClampNeg) (xs (nI n + 3).toNatClampNeg) = C2 at *
  generalize m_X9_come mo (xs (nI n + 1).toNatClampNeg) (xs (nI n + 2).toNatClampNeg) (xs (nI n + 3).toNatClampNeg) = M2 at *
  refine hxS (A0 := A) (As := [.ref (xa 0), .int (xs (nI n + 1).toNatClampNeg), .int (xs (nI n + 2).toNatClampNeg), .int (xs (nI n + 3).toNatClampNeg), .ref oa]) (rest := []) (W1 := wO cy oa f (wSp cy xa sa sb tr na ka z ++ wMo cy a0 a1 a2 a3 a4 a5 a6 mo)) (W2 := wO cy oa (oV f C2.1 C2.2.1) (wSp cy xa sa sb tr na ka C2.2.2 ++ wMo cy a0 a1 a2 a3 a4 a5 a6 mo)) cL hCF gL_law_L_come rfl hq_L_come ⟨Nat.le_of_ble_eq_true rfl, Nat.le_of_ble_eq_true rfl⟩ hG hF hP hD hS hA (h_wL h_Sp rfl) rfl hl.1 rfl (Nat.le_of_ble_eq_true rfl) dL_law_746 ⟨hc, hs⟩ (fun H locs hP hD hS => ?_)
  refine lv_istore (lv' := (5, .int (mR M2.2)) :: [(0, .ref b), (1, .ref (xa 0)), (2, .ref a0), (3, .ref oa), (4, .int (nI n))]) hx hb dL_law_749 hl (by decide) rfl (fun ls hl => ?_)
  refine lv_aload_n hx hb dL_law_751 rfl (lv_at hl 3 rfl) ?_
  refine lv_aload_n hx hb dL_law_752 rfl (lv_at hl 1 rfl) ?_
  refine lv_iload hx hb dL_law_753 (lv_at hl 5 rfl) ?_
  refine lv_iconst (v := (1 : Int32)) hx hb dL_law_755 (by decide) ?_
  refine lv_iadd hx hb dL_law_756 ?_
  refine va_sld hx hb hX hbl hbA hS (si_in (k := 1) (by omega) hL i_k1) dL_law_757 ?_
  refine lv_aload_n hx hb dL_law_758 rfl (lv_at hl 1 rfl) ?_
  refine lv_iload hx hb dL_law_759 (lv_at hl 5 rfl) ?_
  refine lv_iconst (v := (2 : Int32)) hx hb dL_law_761 (by decide) ?_
  refine lv_iadd hx hb dL_law_762 ?_
  refine va_sld hx hb hX hbl hbA hS (si_in (k := 2) (by omega) hL i_k2) dL_law_763 ?_
  refine lv_aload_n hx hb dL_law_764 rfl (lv_at hl 1 rfl) ?_
  refine lv_iload hx hb dL_law_765 (lv_at hl 5 rfl) ?_
  refine lv_iconst (v := (3 : Int32)) hx hb dL_law_767 (by decide) ?_
  refine lv_iadd hx hb dL_law_768 ?_
  refine va_sld hx hb hX hbl hbA hS (si_in (k := 3) (by omega) hL i_k3) dL_law_769 ?_
  refine mwV (ci := 7) (A0 := A) (As := [.int (xs (nI n + 1).toNatClampNeg), .int (xs (nI n + 2).toNatClampNeg), .int (xs (nI n + 3).toNatClampNeg)]) (rest := []) (W1 := wO cy oa (oV f C2.1 C2.2.1) (wSp cy xa sa sb tr na ka C2.2.2 ++ wMo cy a0 a1 a2 a3 a4 a5 a6 mo)) (W2 := wO cy oa (oV f C2.1 C2.2.1) (wSp cy xa sa sb tr na ka C2.2.2 ++ wMo cy a0 a1 a2 a3 a4 a5 a6 M2.2)) cM hCF gL_law_X9_come rfl hd_X9_come ⟨rfl, rfl, Nat.le_of_ble_eq_true rfl, Nat.le_of_ble_eq_true rfl⟩ hG hP hD hS hA (h_wL rfl h_Mo) rfl rfl (List.mem_cons_of_mem _ (List.mem_append_right _ (List.mem_of_getElem? g_Mo_0))) rfl hl.1 rfl (Nat.le_of_ble_eq_true rfl) dL_law_770 ⟨hc, hs⟩ (fun H locs hP hD hS => ?_)
  refine lv_istore (lv' := (6, .int M2.1) :: (5, .int (mR M2.2)) :: [(0, .ref b), (1, .ref (xa 0)), (2, .ref a0), (3, .ref oa), (4, .int (nI n))]) hx hb dL_law_773 hl (by decide) rfl (fun ls hl => ?_)
  refine lv_aload_n hx hb dL_law_775 rfl (lv_at hl 4 rfl) ?_
  refine rwV (ci := 7) (As := []) (rest := []) (W1 := wO cy oa (oV f C2.1 C2.2.1) (wSp cy xa sa sb tr na ka C2.2.2 ++ wMo cy a0 a1 a2 a3 a4 a5 a6 M2.2)) ((c_X9_thrown l D cy a0 a1 a2 a3 a4 a5 a6 M2.2).ctx (r := wO cy oa (oV f C2.1 C2.2.1) (wSp cy xa sa sb tr na ka C2.2.2)) wO_app2) hCF gL_law_X9_thrown rfl hd_X9_thrown ⟨rfl, rfl, Nat.le_of_ble_eq_true rfl, Nat.le_of_ble_eq_true rfl⟩ hG hP rfl rfl (List.mem_cons_of_mem _ (List.mem_append_right _ (List.mem_of_getElem? g_Mo_0))) rfl hl.1 rfl (Nat.le_of_ble_eq_true rfl) dL_law_776 ⟨hc, hs⟩ ?_
  refine lv_iload hx hb dL_law_779 (lv_at hl 1 rfl) ?_
  refine lv_icmp_eq (tgt := 786) hx hb dL_law_781 (by decide) (fun _ => ?_) (fun q => absurd rfl q)
  refine lv_iload hx hb dL_law_786 (lv_at hl 1 rfl) ?_
  refine lv_if_ne (tgt := 803) hx hb dL_law_788 (by decide) (fun _ => ?_) (fun k0 => ?_)
  · refine lv_goto (tgt := 2164) hx hb dL_law_803 (by decide) ?_
    exact kk _ _ _ _ _ _ (kl_sub hl) ag.1 hP hD hS
  refine lv_aload_n hx hb dL_law_791 rfl (lv_at hl 5 rfl) ?_
  refine lv_iconst (v := (0 : Int32)) hx hb dL_law_792 (by decide) ?_
  refine va_lald hx hb hG.1 hP 0 3 rfl rfl (bd_of (by decide) (by decide)) dL_law_793 ?_
  refine lv_iload hx hb dL_law_794 (lv_at hl 0 rfl) ?_
  refine lv_i2l hx hb dL_law_796 rfl ?_
  refine W.lcmp hx hb dL_law_797 ?_
  have av := ag_v ag nz_ea k0
  refine lv_if_eq (tgt := 803) hx hb dL_law_798 (by decide) (fun _ => ?_) (fun q => absurd (lg_same ((oV_get av.1).trans (congrArg Int32.toInt64 av.2))) q)
  refine lv_goto (tgt := 2164) hx hb dL_law_803 (by decide) ?_
  exact kk _ _ _ _ _ _ (kl_sub hl) ag.1 hP hD hS
