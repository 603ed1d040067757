/-! the cases of the law -/
set_option maxRecDepth 20000 in
theorem w_lend {p : Program} {l : Launch} {e : Env} {s : State} {m : MethodId} {below : List Frame} {meth : Method} {c : Code} {b L : Nat} {xs : Nat → Int32} {D : va_G} {cy : Nat → ClassId} {t : FxA} {A : Nat → Prop} {Q : State → Prop} {xa sa sb tr na : Nat → Nat} {ka : Nat → Nat → Nat} {a0 a1 a2 a3 a4 a5 a6 oa : Nat} (C0 : LC p l s m meth c b L xs D cy t A) {n : Nat} (hn : n + 5 ≤ L) (hL : L ≤ 2560) {cells slots : Nat} (hc : cells + 1 ≤ 601024) (hs : slots + 6 ≤ 7293034) {T : Int} (hT0 : 100000 ≤ T) (hT : T ≤ 1000000) {H : Heap} {locs : List Loc} {ls : Array Slot} {z : SpT} {mo : MoT} {f : Nat → Int64}
    (hl : lv_has ls 7 [(0, .ref b), (1, .ref (xa 0)), (2, .ref a0), (3, .ref oa), (4, .int (nI n))]) (h : PR T z mo) (hP : va_P D vwCl (wO cy oa f (wSp cy xa sa sb tr na ka z ++ wMo cy a0 a1 a2 a3 a4 a5 a6 mo)) H) (hD : va_D A (wO cy oa f (wSp cy xa sa sb tr na ka z ++ wMo cy a0 a1 a2 a3 a4 a5 a6 mo))) (hS : va_S A s.heap H locs)
    (kk : ∀ (ls : Array Slot) (H : Heap) (locs : List Loc) (z : SpT) (mo : MoT) (f : Nat → Int64), lv_has ls 7 [(0, .ref b), (1, .ref (xa 0)), (2, .ref a0), (3, .ref oa), (4, .int (nI n))] → PR (T + 99) z mo → va_P D vwCl (wO cy oa f (wSp cy xa sa sb tr na ka z ++ wMo cy a0 a1 a2 a3 a4 a5 a6 mo)) H → va_D A (wO cy oa f (wSp cy xa sa sb tr na ka z ++ wMo cy a0 a1 a2 a3 a4 a5 a6 mo)) → va_S A s.heap H locs → Wx p l e room_1 s m #[Value.ref b] below meth c H locs (cells + 1) (slots + 6) Q (F0 m 2164 ls [])) : Wx p l e room_1 s m #[Value.ref b] below meth c H locs cells slots Q (F0 m 806 ls []) := by
  obtain ⟨hx, hb, hCF, hG, hF, hX, hbl, hbA, hA, hl0, hown⟩ := C0
  refine lv_aload_n hx hb dL_law_806 rfl (lv_at hl 1 rfl) ?_
  refine lv_aload_n hx hb dL_law_807 rfl (lv_at hl 0 rfl) ?_
  refine lv_iload hx hb dL_law_808 (lv_at hl 4 rfl) ?_
  refine lv_iconst (v := (1 : Int32)) hx hb dL_law_810 (by decide) ?_
  refine lv_iadd hx hb dL_law_811 ?_
  refine va_sld hx hb hX hbl hbA hS (si_in (k := 1) (by omega) hL i_k1) dL_law_812 ?_
  refine lv_aload_n hx hb dL_law_813 rfl (lv_at hl 0 rfl) ?_
  refine lv_iload hx hb dL_law_814 (lv_at hl 4 rfl) ?_
  refine lv_iconst (v := (2 : Int32)) hx hb dL_law_816 (by decide) ?_
  refine lv_iadd hx hb dL_law_817 ?_
  refine va_sld hx hb hX hbl hbA hS (si_in (k := 2) (by omega) hL i_k2) dL_law_818 ?_
  refine lv_aload_n hx hb dL_law_819 rfl (lv_at hl 0 rfl) ?_
  refine lv_iload hx hb dL_law_820 (lv_at hl 4 rfl) ?_
  refine lv_iconst (v := (3 : Int32)) hx hb dL_law_822 (by decide) ?_
  refine lv_iadd hx hb dL_law_823 ?_
  refine va_sld hx hb hX hbl hbA hS (si_in (k := 3) (by omega) hL i_k3) dL_law_824 ?_
  refine lv_aload_n hx hb dL_law_825 rfl (lv_at hl 3 rfl) ?_
  have ag := ag_lend (x1 := (xs (nI n + 1).toNatClampNeg)) (x2 := (xs (nI n + 2).toNatClampNeg)) (x3 := (xs (nI n + 3).toNatClampNeg)) h (by omega)
  have cL := (c_L_lend l hl0 D cy t xa sa sb tr na ka oa f h (xs (nI n + 1).toNatClampNeg) (xs (nI n + 2).toNatClampNeg) (xs (nI n + 3).toNatClampNeg) (ag_k ag)).ctx (r := wMo cy a0 a1 a2 a3 a4 a5 a6 mo) wO_app wO_app
  have cM := ((c_X9_lend l D cy a0 a1 a2 a3 a4 a5 a6 mo (xs (nI n + 1).toNatClampNeg) (xs (nI n + 2).toNatClampNeg) (xs (nI n + 3).toNatClampNeg) h.ro h.ac).ctx (r := wO cy oa (oV f (m_X8_lend z (xs (nI n + 1).toNatClampNeg) (xs (nI n + 2).toNatClampNeg) (xs (nI n + 3).toNatClampNeg)).1 (m_X8_lend z (xs (nI n + 1).toNatClampNeg) (xs (nI n + 2).toNatClampNeg) (xs (nI n + 3).toNatClampNeg)).2.1) (wSp cy xa sa sb tr na ka (m_X8_lend z (xs (nI n + 1).toNatClampNeg) (xs (nI n + 2).toNatClampNeg) (xs (nI n + 3).toNatClampNeg)).2.2)) wO_app2 wO_app2)
  generalize m_X8_lend z (xs (nI n + 1).toNatClampNeg) (xs (nI n + 2).toNatClampNeg) (xs (nI n + 3).toNatClampNeg) = C2 at *
  generalize m_X9_lend mo (xs (nI n + 1).toNatClampNeg) (xs (nI n + 2).toNatClampNeg) (xs (nI n + 3).toNatClampNeg) = M2 at *
  refine hxS (A0 := A) (As := [.ref (xa 0), .int (xs (nI n + 1).toNatClampNeg), .int (xs (nI n + 2).toNatClampNeg), .int (xs (nI n + 3).toNatClampNeg), .ref oa]) (rest := []) (W1 := wO cy oa f (wSp cy xa sa sb tr na ka z ++ wMo cy a0 a1 a2 a3 a4 a5 a6 mo)) (W2 := wO cy oa (oV f C2.1 C2.2.1) (wSp cy xa sa sb tr na ka C2.2.2 ++ wMo cy a0 a1 a2 a3 a4 a5 a6 mo)) cL hCF gL_law_L_lend rfl hq_L_lend ⟨Nat.le_of_ble_eq_true rfl, Nat.le_of_ble_eq_true rfl⟩ hG hF hP hD hS hA (h_wL h_Sp rfl) rfl hl.1 rfl (Nat.le_of_ble_eq_true rfl) dL_law_826 ⟨hc, hs⟩ (fun H locs hP hD hS => ?_)
  refine lv_istore (lv' := (5, .int (mR M2.2)) :: [(0, .ref b), (1, .ref (xa 0)), (2, .ref a0), (3, .ref oa), (4, .int (nI n))]) hx hb dL_law_829 hl (by decide) rfl (fun ls hl => ?_)
  refine lv_aload_n hx hb dL_law_831 rfl (lv_at hl 3 rfl) ?_
  refine lv_aload_n hx hb dL_law_832 rfl (lv_at hl 1 rfl) ?_
  refine lv_iload hx hb dL_law_833 (lv_at hl 5 rfl) ?_
  refine lv_iconst (v := (1 : Int32)) hx hb dL_law_835 (by decide) ?_
  refine lv_iadd hx hb dL_law_836 ?_
  refine va_sld hx hb hX hbl hbA hS (si_in (k := 1) (by omega) hL i_k1) dL_law_837 ?_
  refine lv_aload_n hx hb dL_law_838 rfl (lv_at hl 1 rfl) ?_
  refine lv_iload hx hb dL_law_839 (lv_at hl 5 rfl) ?_
  refine lv_iconst (v := (2 : Int32)) hx hb dL_law_841 (by decide) ?_
  refine lv_iadd hx hb dL_law_842 ?_
  refine va_sld hx hb hX hbl hbA hS (si_in (k := 2) (by omega) hL i_k2) dL_law_843 ?_
  refine lv_aload_n hx hb dL_law_844 rfl (lv_at hl 1 rfl) ?_
  refine lv_iload hx hb dL_law_845 (lv_at hl 5 rfl) ?_
  refine lv_iconst (v := (3 : Int32)) hx hb dL_law_847 (by decide) ?_
  refine lv_iadd hx hb dL_law_848 ?_
  refine va_sld hx hb hX hbl hbA hS (si_in (k := 3) (by omega) hL i_k3) dL_law_849 ?_
  refine mwV (ci := 7) (A0 := A) (As := [.int (xs (nI n + 1).toNatClampNeg), .int (xs (nI n + 2).toNatClampNeg), .int (xs (nI n + 3).toNatClampNeg)]) (rest := []) (W1 := wO cy oa (oV f C2.1 C2.2.1) (wSp cy xa sa sb tr na ka C2.2.2 ++ wMo cy a0 a1 a2 a3 a4 a5 a6 mo)) (W2 := wO cy oa (oV f C2.1 C2.2.1) (wSp cy xa sa sb tr na ka C2.2.2 ++ wMo cy a0 a1 a2 a3 a4 a5 a6 M2.2)) cM hCF gL_law_X9_lend rfl hd_X9_lend ⟨rfl, rfl, Nat.le_of_ble_eq_true rfl, Nat.le_of_ble_eq_true rfl⟩ hG hP hD hS hA (h_wL rfl h_Mo) rfl rfl (List.mem_cons_of_mem _ (List.mem_append_right _ (List.mem_of_getElem? g_Mo_0))) rfl hl.1 rfl (Nat.le_of_ble_eq_true rfl) dL_law_850 ⟨hc, hs⟩ (fun H locs hP hD hS => ?_)
  refine lv_istore (lv' := (6, .int M2.1) :: (5, .int (mR M2.2)) :: [(0, .ref b), (1, .ref (xa 0)), (2, .ref a0), (3, .ref oa), (4, .int (nI n))]) hx hb dL_law_853 hl (by decide) rfl (fun ls hl => ?_)
  refine lv_aload_n hx hb dL_law_855 rfl (lv_at hl 4 rfl) ?_
  refine rwV (ci := 7) (As := []) (rest := []) (W1 := wO cy oa (oV f C2.1 C2.2.1) (wSp cy xa sa sb tr na ka C2.2.2 ++ wMo cy a0 a1 a2 a3 a4 a5 a6 M2.2)) ((c_X9_thrown l D cy a0 a1 a2 a3 a4 a5 a6 M2.2).ctx (r := wO cy oa (oV f C2.1 C2.2.1) (wSp cy xa sa sb tr na ka C2.2.2)) wO_app2) hCF gL_law_X9_thrown rfl hd_X9_thrown ⟨rfl, rfl, Nat.le_of_ble_eq_true rfl, Nat.le_of_ble_eq_true rfl⟩ hG hP rfl rfl (List.mem_cons_of_mem _ (List.mem_append_right _ (List.mem_of_getElem? g_Mo_0))) rfl hl.1 rfl (Nat.le_of_ble_eq_true rfl) dL_law_856 ⟨hc, hs⟩ ?_
  refine lv_iload hx hb dL_law_859 (lv_at hl 1 rfl) ?_
  refine lv_icmp_eq (tgt := 866) hx hb dL_law_861 (by decide) (fun _ => ?_) (fun q => absurd rfl q)
  refine lv_iload hx hb dL_law_866 (lv_at hl 1 rfl) ?_
  refine lv_if_ne (tgt := 883) hx hb dL_law_868 (by decide) (fun _ => ?_) (fun k0 => ?_)
  · refine lv_goto (tgt := 2164) hx hb dL_law_883 (by decide) ?_
    exact kk _ _ _ _ _ _ (kl_sub hl) ag.1 hP hD hS
  refine lv_aload_n hx hb dL_law_871 rfl (lv_at hl 5 rfl) ?_
  refine lv_iconst (v := (0 : Int32)) hx hb dL_law_872 (by decide) ?_
  refine va_lald hx hb hG.1 hP 0 3 rfl rfl (bd_of (by decide) (by decide)) dL_law_873 ?_
  refine lv_iload hx hb dL_law_874 (lv_at hl 0 rfl) ?_
  refine lv_i2l hx hb dL_law_876 rfl ?_
  refine W.lcmp hx hb dL_law_877 ?_
  have av := ag_v ag nz_ea k0
  refine lv_if_eq (tgt := 883) hx hb dL_law_878 (by decide) (fun _ => ?_) (fun q => absurd (lg_same ((oV_get av.1).trans (congrArg Int32.toInt64 av.2))) q)
  refine lv_goto (tgt := 2164) hx hb dL_law_883 (by decide) ?_
  exact kk _ _ _ _ _ _ (kl_sub hl) ag.1 hP hD hS
set_option maxRecDepth 20000 in
theorem w_bring {p : Program} {l : Launch} {e : Env} {s : State} {m : MethodId} {below : List Frame} {meth : Method} {c : Code} {b L : Nat} {xs : Nat → Int32} {D : va_G} {cy : Nat → ClassId} {t : FxA} {A : Nat → Prop} {Q : State → Prop} {xa sa sb tr na : Nat → Nat} {ka : Nat → Nat → Nat} {a0 a1 a2 a3 a4 a5 a6 oa : Nat} (C0 : LC p l s m meth c b L xs D cy t A) {n : Nat} (hn : n + 5 ≤ L) (hL : L ≤ 2560) {cells slots : Nat} (hc : cells + 1 ≤ 601024) (hs : slots + 6 ≤ 7293034) {T : Int} (hT0 : 100000 ≤ T) (hT : T ≤ 1000000) {H : Heap} {locs : List Loc} {ls : Array Slot} {z : SpT} {mo : MoT} {f : Nat → Int64}
    (hl : lv_has ls 7 [(0, .ref b), (1, .ref (xa 0)), (2, .ref a0), (3, .ref oa), (4, .int (nI n))]) (h : PR T z mo) (hP : va_P D vwCl (wO cy oa f (wSp cy xa sa sb tr na ka z ++ wMo cy a0 a1 a2 a3 a4 a5 a6 mo)) H) (hD : va_D A (wO cy oa f (wSp cy xa sa sb tr na ka z ++ wMo cy a0 a1 a2 a3 a4 a5 a6 mo))) (hS : va_S A s.heap H locs)
    (kk : ∀ (ls : Array Slot) (H : Heap) (locs : List Loc) (z : SpT) (mo : MoT) (f : Nat → Int64), lv_has ls 7 [(0, .ref b), (1, .ref (xa 0)), (2, .ref a0), (3, .ref oa), (4, .int (nI n))] → PR (T + 99) z mo → va_P D vwCl (wO cy oa f (wSp cy xa sa sb tr na ka z ++ wMo cy a0 a1 a2 a3 a4 a5 a6 mo)) H → va_D A (wO cy oa f (wSp cy xa sa sb tr na ka z ++ wMo cy a0 a1 a2 a3 a4 a5 a6 mo)) → va_S A s.heap H locs → Wx p l e room_1 s m #[Value.ref b] below meth c H locs (cells + 1) (slots + 6) Q (F0 m 2164 ls [])) : Wx p l e room_1 s m #[Value.ref b] below meth c H locs cells slots Q (F0 m 886 ls []) := by
  obtain ⟨hx, hb, hCF, hG, hF, hX, hbl, hbA, hA, hl0, hown⟩ := C0
  refine lv_aload_n hx hb dL_law_886 rfl (lv_at hl 1 rfl) ?_
  refine lv_aload_n hx hb dL_law_887 rfl (lv_at hl 0 rfl) ?_
  refine lv_iload hx hb dL_law_888 (lv_at hl 4 rfl) ?_
  refine lv_iconst (v := (1 : Int32)) hx hb dL_law_890 (by decide) ?_
  refine lv_iadd hx hb dL_law_891 ?_
  refine va_sld hx hb hX hbl hbA hS (si_in (k := 1) (by omega) hL i_k1) dL_law_892 ?_
  refine lv_aload_n hx hb dL_law_893 rfl (lv_at hl 3 rfl) ?_
  have ag := ag_bring (x1 := (xs (nI n + 1).toNatClampNeg)) h (by omega)
  have cL := (c_L_bring l hl0 D cy t xa sa sb tr na ka oa f h (xs (nI n + 1).toNatClampNeg) (ag_k ag)).ctx (r := wMo cy a0 a1 a2 a3 a4 a5 a6 mo) wO_app wO_app
  have cM := ((c_X9_bring l D cy a0 a1 a2 a3 a4 a5 a6 mo (xs (nI n + 1).toNatClampNeg) h.ro h.ac).ctx (r := wO cy oa (oV f (m_X8_bring z (xs (nI n + 1).toNatClampNeg)).1 (m_X8_bring z (xs (nI n + 1).toNatClampNeg)).2.1) (wSp cy xa sa sb tr na ka (m_X8_bring z (xs (nI n + 1).toNatClampNeg)).2.2)) wO_app2 wO_app2)
  generalize m_X8_bring z (xs (nI n + 1).toNatClampNeg) = C2 at *
  generalize m_X9_bring mo (xs (nI n + 1).toNatClampNeg) = M2 at *
  refine hxS (A0 := A) (As := [.ref (xa 0), .int (xs (nI n + 1).toNatClampNeg), .ref oa]) (rest := []) (W1 := wO cy oa f (wSp cy xa sa sb tr na ka z ++ wMo cy a0 a1 a2 a3 a4 a5 a6 mo)) (W2 := wO cy oa (oV f C2.1 C2.2.1) (wSp cy xa sa sb tr na ka C2.2.2 ++ wMo cy a0 a1 a2 a3 a4 a5 a6 mo)) cL hCF gL_law_L_bring rfl hq_L_bring ⟨Nat.le_of_ble_eq_true rfl, Nat.le_of_ble_eq_true rfl⟩ hG hF hP hD hS hA (h_wL h_Sp rfl) rfl hl.1 rfl (Nat.le_of_ble_eq_true rfl) dL_law_894 ⟨hc, hs⟩ (fun H locs hP hD hS => ?_)
  refine lv_istore (lv' := (5, .int (mR M2.2)) :: [(0, .ref b), (1, .ref (xa 0)), (2, .ref a0), (3, .ref oa), (4, .int (nI n))]) hx hb dL_law_897 hl (by decide) rfl (fun ls hl => ?_)
  refine lv_aload_n hx hb dL_law_899 rfl (lv_at hl 3 rfl) ?_
  refine lv_aload_n hx hb dL_law_900 rfl (lv_at hl 1 rfl) ?_
  refine lv_iload hx hb dL_law_901 (lv_at hl 5 rfl) ?_
  refine lv_iconst (v := (1 : Int32)) hx hb dL_law_903 (by decide) ?_
  refine lv_iadd hx hb dL_law_904 ?_
  refine va_sld hx hb hX hbl hbA hS (si_in (k := 1) (by omega) hL i_k1) dL_law_905 ?_
  refine mwV (ci := 7) (A0 := A) (As := [.int (xs (nI n + 1).toNatClampNeg)]) (rest := []) (W1 := wO cy oa (oV f C2.1 C2.2.1) (wSp cy xa sa sb tr na ka C2.2.2 ++ wMo cy a0 a1 a2 a3 a4 a5 a6 mo)) (W2 := wO cy oa (oV f C2.1 C2.2.1) (wSp cy xa sa sb tr na ka C2.2.2 ++ wMo cy a0 a1 a2 a3 a4 a5 a6 M2.2)) cM hCF gL_law_X9_bring rfl hd_X9_bring ⟨rfl, rfl, Nat.le_of_ble_eq_true rfl, Nat.le_of_ble_eq_true rfl⟩ hG hP hD hS hA (h_wL rfl h_Mo) rfl rfl (List.mem_cons_of_mem _ (List.mem_append_right _ (List.mem_of_getElem? g_Mo_0))) rfl hl.1 rfl (Nat.le_of_ble_eq_true rfl) dL_law_906 ⟨hc, hs⟩ (fun H locs hP hD hS => ?_)
  refine lv_istore (lv' := (6, .int M2.1) :: (5, .int (mR M2.2)) :: [(0, .ref b), (1, .ref (xa 0)), (2, .ref a0), (3, .ref oa), (4, .int (nI n))]) hx hb dL_law_909 hl (by decide) rfl (fun ls hl => ?_)
  refine lv_aload_n hx hb dL_law_911 rfl (lv_at hl 4 rfl) ?_
  refine rwV (ci := 7) (As := []) (rest := []) (W1 := wO cy oa (oV f C2.1 C2.2.1) (wSp cy xa sa sb tr na ka C2.2.2 ++ wMo cy a0 a1 a2 a3 a4 a5 a6 M2.2)) ((c_X9_thrown l D cy a0 a1 a2 a3 a4 a5 a6 M2.2).ctx (r := wO cy oa (oV f C2.1 C2.2.1) (wSp cy xa sa sb tr na ka C2.2.2)) wO_app2) hCF gL_law_X9_thrown rfl hd_X9_thrown ⟨rfl, rfl, Nat.le_of_ble_eq_true rfl, Nat.le_of_ble_eq_true rfl⟩ hG hP rfl rfl (List.mem_cons_of_mem _ (List.mem_append_right _ (List.mem_of_getElem? g_Mo_0))) rfl hl.1 rfl (Nat.le_of_ble_eq_true rfl) dL_law_912 ⟨hc, hs⟩ ?_
  refine lv_iload hx hb dL_law_915 (lv_at hl 1 rfl) ?_
  refine lv_icmp_eq (tgt := 922) hx hb dL_law_917 (by decide) (fun _ => ?_) (fun q => absurd rfl q)
  refine lv_iload hx hb dL_law_922 (lv_at hl 1 rfl) ?_
  refine lv_if_ne (tgt := 939) hx hb dL_law_924 (by decide) (fun _ => ?_) (fun k0 => ?_)
  · refine lv_goto (tgt := 2164) hx hb dL_law_939 (by decide) ?_
    exact kk _ _ _ _ _ _ (kl_sub hl) ag.1 hP hD hS
  refine lv_aload_n hx hb dL_law_927 rfl (lv_at hl 5 rfl) ?_
  refine lv_iconst (v := (0 : Int32)) hx hb dL_law_928 (by decide) ?_
  refine va_lald hx hb hG.1 hP 0 3 rfl rfl (bd_of (by decide) (by decide)) dL_law_929 ?_
  refine lv_iload hx hb dL_law_930 (lv_at hl 0 rfl) ?_
  refine lv_i2l hx hb dL_law_932 rfl ?_
  refine W.lcmp hx hb dL_law_933 ?_
  have av := ag_v ag nz_eb k0
  refine lv_if_eq (tgt := 939) hx hb dL_law_934 (by decide) (fun _ => ?_) (fun q => absurd (lg_same ((oV_get av.1).trans (congrArg Int32.toInt64 av.2))) q)
  refine lv_goto (tgt := 2164) hx hb dL_law_939 (by decide) ?_
  exact kk _ _ _ _ _ _ (kl_sub hl) ag.1 hP hD hS
set_option maxRecDepth 20000 in
theorem w_exchange {p : Program} {l : Launch} {e : Env} {s : State} {m : MethodId} {below : List Frame} {meth : Method} {c : Code} {b L : Nat} {xs : Nat → Int32} {D : va_G} {cy : Nat → ClassId} {t : FxA} {A : Nat → Prop} {Q : State → Prop} {xa sa sb tr na : Nat → Nat} {ka : Nat → Nat → Nat} {a0 a1 a2 a3 a4 a5 a6 oa : Nat} (C0 : LC p l s m meth c b L xs D cy t A) {n : Nat} (hn : n + 5 ≤ L) (hL : L ≤ 2560) {cells slots : Nat} (hc : cells + 1 ≤ 601024) (hs : slots + 6 ≤ 7293034) {T : Int} (hT0 : 100000 ≤ T) (hT : T ≤ 1000000) {H : Heap} {locs : List Loc} {ls : Array Slot} {z : SpT} {mo : MoT} {f : Nat → Int64}
    (hl : lv_has ls 7 [(0, .ref b), (1, .ref (xa 0)), (2, .ref a0), (3, .ref oa), (4, .int (nI n))]) (h : PR T z mo) (hP : va_P D vwCl (wO cy oa f (wSp cy xa sa sb tr na ka z ++ wMo cy a0 a1 a2 a3 a4 a5 a6 mo)) H) (hD : va_D A (wO cy oa f (wSp cy xa sa sb tr na ka z ++ wMo cy a0 a1 a2 a3 a4 a5 a6 mo))) (hS : va_S A s.heap H locs)
    (kk : ∀ (ls : Array Slot) (H : Heap) (locs : List Loc) (z : SpT) (mo : MoT) (f : Nat → Int64), lv_has ls 7 [(0, .ref b), (1, .ref (xa 0)), (2, .ref a0), (3, .ref oa), (4, .int (nI n))] → PR (T + 99) z mo → va_P D vwCl (wO cy oa f (wSp cy xa sa sb tr na ka z ++ wMo cy a0 a1 a2 a3 a4 a5 a6 mo)) H → va_D A (wO cy oa f (wSp cy xa sa sb tr na ka z ++ wMo cy a0 a1 a2 a3 a4 a5 a6 mo)) → va_S A s.heap H locs → Wx p l e room_1 s m #[Value.ref b] below meth c H locs (cells + 1) (slots + 6) Q (F0 m 2164 ls [])) : Wx p l e room_1 s m #[Value.ref b] below meth c H locs cells slots Q (F0 m 942 ls []) := by
  obtain ⟨hx, hb, hCF, hG, hF, hX, hbl, hbA, hA, hl0, hown⟩ := C0
  refine lv_aload_n hx hb dL_law_942 rfl (lv_at hl 1 rfl) ?_
  refine lv_aload_n hx hb dL_law_943 rfl (lv_at hl 0 rfl) ?_
  refine lv_iload hx hb dL_law_944 (lv_at hl 4 rfl) ?_
  refine lv_iconst (v := (1 : Int32)) hx hb dL_law_946 (by decide) ?_
  refine lv_iadd hx hb dL_law_947 ?_
  refine va_sld hx hb hX hbl hbA hS (si_in (k := 1) (by omega) hL i_k1) dL_law_948 ?_
  refine lv_aload_n hx hb dL_law_949 rfl (lv_at hl 0 rfl) ?_
  refine lv_iload hx hb dL_law_950 (lv_at hl 4 rfl) ?_
  refine lv_iconst (v := (2 : Int32)) hx hb dL_law_952 (by decide) ?_
  refine lv_iadd hx hb dL_law_953 ?_
  refine va_sld hx hb hX hbl hbA hS (si_in (k := 2) (by omega) hL i_k2) dL_law_954 ?_
  refine lv_aload_n hx hb dL_law_955 rfl (lv_at hl 3 rfl) ?_
  have ag := ag_exchange (x1 := (xs (nI n + 1).toNatClampNeg)) (x2 := (xs (nI n + 2).toNatClampNeg)) h (by omega)
  have cL := (c_L_exchange l hl0 D cy t xa sa sb tr na ka oa f h (xs (nI n + 1).toNatClampNeg) (xs (nI n + 2).toNatClampNeg) (ag_k ag)).ctx (r := wMo cy a0 a1 a2 a3 a4 a5 a6 mo) wO_app wO_app
  have cM := ((c_X9_exchange l D cy a0 a1 a2 a3 a4 a5 a6 mo (xs (nI n + 1).toNatClampNeg) (xs (nI n + 2).toNatClampNeg) h.ro h.ac).ctx (r := wO cy oa (oV f (m_X8_exchange z (xs (nI n + 1).toNatClampNeg) (xs (nI n + 2).toNatClampNeg)).1 (m_X8_exchange z (xs (nI n + 1).toNatClampNeg) (xs (nI n + 2).toNatClampNeg)).2.1) (wSp cy xa sa sb tr na ka (m_X8_exchange z (xs (nI n + 1).toNatClampNeg) (xs (nI n + 2).toNatClampNeg)).2.2)) wO_app2 wO_app2)
  generalize m_X8_exchange z (xs (nI n + 1).toNatClampNeg) (xs (nI n + 2).toNatClampNeg) = C2 at *
  generalize m_X9_exchange mo (xs (nI n + 1).toNatClampNeg) (xs (nI n + 2).toNatClampNeg) = M2 at *
  refine hxS (A0 := A) (As := [.ref (xa 0), .int (xs (nI n + 1).toNatClampNeg), .int (xs (nI n + 2).toNatClampNeg), .ref oa]) (rest := []) (W1 := wO cy oa f (wSp cy xa sa sb tr na ka z ++ wMo cy a0 a1 a2 a3 a4 a5 a6 mo)) (W2 := wO cy oa (oV f C2.1 C2.2.1) (wSp cy xa sa sb tr na ka C2.2.2 ++ wMo cy a0 a1 a2 a3 a4 a5 a6 mo)) cL hCF gL_law_L_exchange rfl hq_L_exchange ⟨Nat.le_of_ble_eq_true rfl, Nat.le_of_ble_eq_true rfl⟩ hG hF hP hD hS hA (h_wL h_Sp rfl) rfl hl.1 rfl (Nat.le_of_ble_eq_true rfl) dL_law_956 ⟨hc, hs⟩ (fun H locs hP hD hS => ?_)
  refine lv_istore (lv' := (5, .int (mR M2.2)) :: [(0, .ref b), (1, .ref (xa 0)), (2, .ref a0), (3, .ref oa), (4, .int (nI n))]) hx hb dL_law_959 hl (by decide) rfl (fun ls hl => ?_)
  refine lv_aload_n hx hb dL_law_961 rfl (lv_at hl 3 rfl) ?_
  refine lv_aload_n hx hb dL_law_962 rfl (lv_at hl 1 rfl) ?_
  refine lv_iload hx hb dL_law_963 (lv_at hl 5 rfl) ?_
  refine lv_iconst (v := (1 : Int32)) hx hb dL_law_965 (by decide) ?_
  refine lv_iadd hx hb dL_law_966 ?_
  refine va_sld hx hb hX hbl hbA hS (si_in (k := 1) (by omega) hL i_k1) dL_law_967 ?_
  refine lv_aload_n hx hb dL_law_968 rfl (lv_at hl 1 rfl) ?_
  refine lv_iload hx hb dL_law_969 (lv_at hl 5 rfl) ?_
  refine lv_iconst (v := (2 : Int32)) hx hb dL_law_971 (by decide) ?_
  refine lv_iadd hx hb dL_law_972 ?_
  refine va_sld hx hb hX hbl hbA hS (si_in (k := 2) (by omega) hL i_k2) dL_law_973 ?_
  refine mwV (ci := 7) (A0 := A) (As := [.int (xs (nI n + 1).toNatClampNeg), .int (xs (nI n + 2).toNatClampNeg)]) (rest := []) (W1 := wO cy oa (oV f C2.1 C2.2.1) (wSp cy xa sa sb tr na ka C2.2.2 ++ wMo cy a0 a1 a2 a3 a4 a5 a6 mo)) (W2 := wO cy oa (oV f C2.1 C2.2.1) (wSp cy xa sa sb tr na ka C2.2.2 ++ wMo cy a0 a1 a2 a3 a4 a5 a6 M2.2)) cM hCF gL_law_X9_exchange rfl hd_X9_exchange ⟨rfl, rfl, Nat.le_of_ble_eq_true rfl, Nat.le_of_ble_eq_true rfl⟩ hG hP hD hS hA (h_wL rfl h_Mo) rfl rfl (List.mem_cons_of_mem _ (List.mem_append_right _ (List.mem_of_getElem? g_Mo_0))) rfl hl.1 rfl (Nat.le_of_ble_eq_true rfl) dL_law_974 ⟨hc, hs⟩ (fun H locs hP hD hS => ?_)
  refine lv_istore (lv' := (6, .int M2.1) :: (5, .int (mR M2.2)) :: [(0, .ref b), (1, .ref (xa 0)), (2, .ref a0), (3, .ref oa), (4, .int (nI n))]) hx hb dL_law_977 hl (by decide) rfl (fun ls hl => ?_)
  refine lv_aload_n hx hb dL_law_979 rfl (lv_at hl 4 rfl) ?_
  refine rwV (ci := 7) (As := []) (rest := []) (W1 := wO cy oa (oV f C2.1 C2.2.1) (wSp cy xa sa sb tr na ka C2.2.2 ++ wMo cy a0 a1 a2 a3 a4 a5 a6 M2.2)) ((c_X9_thrown l D cy a0 a1 a2 a3 a4 a5 a6 M2.2).ctx (r := wO cy oa (oV f C2.1 C2.2.1) (wSp cy xa sa sb tr na ka C2.2.2)) wO_app2) hCF gL_law_X9_thrown rfl hd_X9_thrown ⟨rfl, rfl, Nat.le_of_ble_eq_true rfl, Nat.le_of_ble_eq_true rfl⟩ hG hP rfl rfl (List.mem_cons_of_mem _ (List.mem_append_right _ (List.mem_of_getElem? g_Mo_0))) rfl hl.1 rfl (Nat.le_of_ble_eq_true rfl) dL_law_980 ⟨hc, hs⟩ ?_
  refine lv_iload hx hb dL_law_983 (lv_at hl 1 rfl) ?_
  refine lv_icmp_eq (tgt := 990) hx hb dL_law_985 (by decide) (fun _ => ?_) (fun q => absurd rfl q)
  refine lv_iload hx hb dL_law_990 (lv_at hl 1 rfl) ?_
  refine lv_if_ne (tgt := 1007) hx hb dL_law_992 (by decide) (fun _ => ?_) (fun k0 => ?_)
  · refine lv_goto (tgt := 2164) hx hb dL_law_1007 (by decide) ?_
    exact kk _ _ _ _ _ _ (kl_sub hl) ag.1 hP hD hS
  refine lv_aload_n hx hb dL_law_995 rfl (lv_at hl 5 rfl) ?_
  refine lv_iconst (v := (0 : Int32)) hx hb dL_law_996 (by decide) ?_
  refine va_lald hx hb hG.1 hP 0 3 rfl rfl (bd_of (by decide) (by decide)) dL_law_997 ?_
  refine lv_iload hx hb dL_law_998 (lv_at hl 0 rfl) ?_
  refine lv_i2l hx hb dL_law_1000 rfl ?_
  refine W.lcmp hx hb dL_law_1001 ?_
  have av := ag_v ag nz_eb k0
  refine lv_if_eq (tgt := 1007) hx hb dL_law_1002 (by decide) (fun _ => ?_) (fun q => absurd (lg_same ((oV_get av.1).trans (congrArg Int32.toInt64 av.2))) q)
  refine lv_goto (tgt := 2164) hx hb dL_law_1007 (by decide) ?_
  exact kk _ _ _ _ _ _ (kl_sub hl) ag.1 hP hD hS
set_option maxRecDepth 20000 in
theorem w_advance {p : Program} {l : Launch} {e : Env} {s : State} {m : MethodId} {below : List Frame} {meth : Method} {c : Code} {b L : Nat} {xs : Nat → Int32} {D : va_G} {cy : Nat → ClassId} {t : FxA} {A : Nat → Prop} {Q : State → Prop} {xa sa sb tr na : Nat → Nat} {ka : Nat → Nat → Nat} {a0 a1 a2 a3 a4 a5 a6 oa : Nat} (C0 : LC p l s m meth c b L xs D cy t A) {n : Nat} (hn : n + 5 ≤ L) (hL : L ≤ 2560) {cells slots : Nat} (hc : cells + 1 ≤ 601024) (hs : slots + 6 ≤ 7293034) {T : Int} (hT0 : 100000 ≤ T) (hT : T ≤ 1000000) {H : Heap} {locs : List Loc} {ls : Array Slot} {z : SpT} {mo : MoT} {f : Nat → Int64}
    (hl : lv_has ls 7 [(0, .ref b), (1, .ref (xa 0)), (2, .ref a0), (3, .ref oa), (4, .int (nI n))]) (h : PR T z mo) (hP : va_P D vwCl (wO cy oa f (wSp cy xa sa sb tr na ka z ++ wMo cy a0 a1 a2 a3 a4 a5 a6 mo)) H) (hD : va_D A (wO cy oa f (wSp cy xa sa sb tr na ka z ++ wMo cy a0 a1 a2 a3 a4 a5 a6 mo))) (hS : va_S A s.heap H locs)
    (kk : ∀ (ls : Array Slot) (H : Heap) (locs : List Loc) (z : SpT) (mo : MoT) (f : Nat → Int64), lv_has ls 7 [(0, .ref b), (1, .ref (xa 0)), (2, .ref a0), (3, .ref oa), (4, .int (nI n))] → PR (T + 99) z mo → va_P D vwCl (wO cy oa f (wSp cy xa sa sb tr na ka z ++ wMo cy a0 a1 a2 a3 a4 a5 a6 mo)) H → va_D A (wO cy oa f (wSp cy xa sa sb tr na ka z ++ wMo cy a0 a1 a2 a3 a4 a5 a6 mo)) → va_S A s.heap H locs → Wx p l e room_1 s m #[Value.ref b] below meth c H locs (cells + 1) (slots + 6) Q (F0 m 2164 ls [])) : Wx p l e room_1 s m #[Value.ref b] below meth c H locs cells slots Q (F0 m 1010 ls []) := by
  obtain ⟨hx, hb, hCF, hG, hF, hX, hbl, hbA, hA, hl0, hown⟩ := C0
  refine lv_aload_n hx hb dL_law_1010 rfl (lv_at hl 1 rfl) ?_
  refine lv_aload_n hx hb dL_law_1011 rfl (lv_at hl 0 rfl) ?_
  refine lv_iload hx hb dL_law_1012 (lv_at hl 4 rfl) ?_
  refine lv_iconst (v := (1 : Int32)) hx hb dL_law_1014 (by decide) ?_
  refine lv_iadd hx hb dL_law_1015 ?_
  refine va_sld hx hb hX hbl hbA hS (si_in (k := 1) (by omega) hL i_k1) dL_law_1016 ?_
  refine lv_aload_n hx hb dL_law_1017 rfl (lv_at hl 0 rfl) ?_
  refine lv_iload hx hb dL_law_1018 (lv_at hl 4 rfl) ?_
  refine lv_iconst (v := (2 : Int32)) hx hb dL_law_1020 (by decide) ?_
  refine lv_iadd hx hb dL_law_1021 ?_
  refine va_sld hx hb hX hbl hbA hS (si_in (k := 2) (by omega) hL i_k2) dL_law_1022 ?_
  refine lv_aload_n hx hb dL_law_1023 rfl (lv_at hl 0 rfl) ?_
  refine lv_iload hx hb dL_law_1024 (lv_at hl 4 rfl) ?_
  refine lv_iconst (v := (3 : Int32)) hx hb dL_law_1026 (by decide) ?_
  refine lv_iadd hx hb dL_law_1027 ?_
  refine va_sld hx hb hX hbl hbA hS (si_in (k := 3) (by omega) hL i_k3) dL_law_1028 ?_
  refine lv_aload_n hx hb dL_law_1029 rfl (lv_at hl 3 rfl) ?_
  have ag := ag_advance (x1 := (xs (nI n + 1).toNatClampNeg)) (x2 := (xs (nI n + 2).toNatClampNeg)) (x3 := (xs (nI n + 3).toNatClampNeg)) h (by omega)
  have cL := (c_L_advance l hl0 D cy t xa sa sb tr na ka oa f h (xs (nI n + 1).toNatClampNeg) (xs (nI n + 2).toNatClampNeg) (xs (nI n + 3).toNatClampNeg) (ag_k ag)).ctx (r := wMo cy a0 a1 a2 a3 a4 a5 a6 mo) wO_app wO_app
  have cM := ((c_X9_advance l D cy a0 a1 a2 a3 a4 a5 a6 mo (xs (nI n + 1).toNatClampNeg) (xs (nI n + 2).toNatClampNeg) (xs (nI n + 3).toNatClampNeg) h.ro h.ac).ctx (r := wO cy oa (oV f (m_X8_advance z (xs (nI n + 1).toNatClampNeg) (xs (nI n + 2).toNatClampNeg) (xs (nI n + 3).toNatClampNeg)).1 (m_X8_advance z (xs (nI n + 1).toNatClampNeg) (xs (nI n + 2).toNatClampNeg) (xs (nI n + 3).toNatClampNeg)).2.1) (wSp cy xa sa sb tr na ka (m_X8_advance z (xs (nI n + 1).toNatClampNeg) (xs (nI n + 2).toNatClampNeg) (xs (nI n + 3).toNatClampNeg)).2.2)) wO_app2 wO_app2)
  generalize m_X8_advance z (xs (nI n + 1).toNatClampNeg) (xs (nI n + 2).toNatClampNeg) (xs (nI n + 3).toNatClampNeg) = C2 at *
  generalize m_X9_advance mo (xs (nI n + 1).toNatClampNeg) (xs (nI n + 2).toNatClampNeg) (xs (nI n + 3).toNatClampNeg) = M2 at *
  refine hxS (A0 := A) (As := [.ref (xa 0), .int (xs (nI n + 1).toNatClampNeg), .int (xs (nI n + 2).toNatClampNeg), .int (xs (nI n + 3).toNatClampNeg), .ref oa]) (rest := []) (W1 := wO cy oa f (wSp cy xa sa sb tr na ka z ++ wMo cy a0 a1 a2 a3 a4 a5 a6 mo)) (W2 := wO cy oa (oV f C2.1 C2.2.1) (wSp cy xa sa sb tr na ka C2.2.2 ++ wMo cy a0 a1 a2 a3 a4 a5 a6 mo)) cL hCF gL_law_L_advance rfl hq_L_advance ⟨Nat.le_of_ble_eq_true rfl, Nat.le_of_ble_eq_true rfl⟩ hG hF hP hD hS hA (h_wL h_Sp rfl) rfl hl.1 rfl (Nat.le_of_ble_eq_true rfl) dL_law_1030 ⟨hc, hs⟩ (fun H locs hP hD hS => ?_)
  refine lv_istore (lv' := (5, .int (mR M2.2)) :: [(0, .ref b), (1, .ref (xa 0)), (2, .ref a0), (3, .ref oa), (4, .int (nI n))]) hx hb dL_law_1033 hl (by decide) rfl (fun ls hl => ?_)
  refine lv_aload_n hx hb dL_law_1035 rfl (lv_at hl 3 rfl) ?_
  refine lv_aload_n hx hb dL_law_1036 rfl (lv_at hl 1 rfl) ?_
  refine lv_iload hx hb dL_law_1037 (lv_at hl 5 rfl) ?_
  refine lv_iconst (v := (1 : Int32)) hx hb dL_law_1039 (by decide) ?_
  refine lv_iadd hx hb dL_law_1040 ?_
  refine va_sld hx hb hX hbl hbA hS (si_in (k := 1) (by omega) hL i_k1) dL_law_1041 ?_
  refine lv_aload_n hx hb dL_law_1042 rfl (lv_at hl 1 rfl) ?_
  refine lv_iload hx hb dL_law_1043 (lv_at hl 5 rfl) ?_
  refine lv_iconst (v := (2 : Int32)) hx hb dL_law_1045 (by decide) ?_
  refine lv_iadd hx hb dL_law_1046 ?_
  refine va_sld hx hb hX hbl hbA hS (si_in (k := 2) (by omega) hL i_k2) dL_law_1047 ?_
  refine lv_aload_n hx hb dL_law_1048 rfl (lv_at hl 1 rfl) ?_
  refine lv_iload hx hb dL_law_1049 (lv_at hl 5 rfl) ?_
  refine lv_iconst (v := (3 : Int32)) hx hb dL_law_1051 (by decide) ?_
  refine lv_iadd hx hb dL_law_1052 ?_
  refine va_sld hx hb hX hbl hbA hS (si_in (k := 3) (by omega) hL i_k3) dL_law_1053 ?_
  refine mwV (ci := 7) (A0 := A) (As := [.int (xs (nI n + 1).toNatClampNeg), .int (xs (nI n + 2).toNatClampNeg), .int (xs (nI n + 3).toNatClampNeg)]) (rest := []) (W1 := wO cy oa (oV f C2.1 C2.2.1) (wSp cy xa sa sb tr na ka C2.2.2 ++ wMo cy a0 a1 a2 a3 a4 a5 a6 mo)) (W2 := wO cy oa (oV f C2.1 C2.2.1) (wSp cy xa sa sb tr na ka C2.2.2 ++ wMo cy a0 a1 a2 a3 a4 a5 a6 M2.2)) cM hCF gL_law_X9_advance rfl hd_X9_advance ⟨rfl, rfl, Nat.le_of_ble_eq_true rfl, Nat.le_of_ble_eq_true rfl⟩ hG hP hD hS hA (h_wL rfl h_Mo) rfl rfl (List.mem_cons_of_mem _ (List.mem_append_right _ (List.mem_of_getElem? g_Mo_0))) rfl hl.1 rfl (Nat.le_of_ble_eq_true rfl) dL_law_1054 ⟨hc, hs⟩ (fun H locs hP hD hS => ?_)
  refine lv_istore (lv' := (6, .int M2.1) :: (5, .int (mR M2.2)) :: [(0, .ref b), (1, .ref (xa 0)), (2, .ref a0), (3, .ref oa), (4, .int (nI n))]) hx hb dL_law_1057 hl (by decide) rfl (fun ls hl => ?_)
  refine lv_aload_n hx hb dL_law_1059 rfl (lv_at hl 4 rfl) ?_
  refine rwV (ci := 7) (As := []) (rest := []) (W1 := wO cy oa (oV f C2.1 C2.2.1) (wSp cy xa sa sb tr na ka C2.2.2 ++ wMo cy a0 a1 a2 a3 a4 a5 a6 M2.2)) ((c_X9_thrown l D cy a0 a1 a2 a3 a4 a5 a6 M2.2).ctx (r := wO cy oa (oV f C2.1 C2.2.1) (wSp cy xa sa sb tr na ka C2.2.2)) wO_app2) hCF gL_law_X9_thrown rfl hd_X9_thrown ⟨rfl, rfl, Nat.le_of_ble_eq_true rfl, Nat.le_of_ble_eq_true rfl⟩ hG hP rfl rfl (List.mem_cons_of_mem _ (List.mem_append_right _ (List.mem_of_getElem? g_Mo_0))) rfl hl.1 rfl (Nat.le_of_ble_eq_true rfl) dL_law_1060 ⟨hc, hs⟩ ?_
  refine lv_iload hx hb dL_law_1063 (lv_at hl 1 rfl) ?_
  refine lv_icmp_eq (tgt := 1070) hx hb dL_law_1065 (by decide) (fun _ => ?_) (fun q => absurd rfl q)
  refine lv_iload hx hb dL_law_1070 (lv_at hl 1 rfl) ?_
  refine lv_if_ne (tgt := 1087) hx hb dL_law_1072 (by decide) (fun _ => ?_) (fun k0 => ?_)
  · refine lv_goto (tgt := 2164) hx hb dL_law_1087 (by decide) ?_
    exact kk _ _ _ _ _ _ (kl_sub hl) ag.1 hP hD hS
  refine lv_aload_n hx hb dL_law_1075 rfl (lv_at hl 5 rfl) ?_
  refine lv_iconst (v := (0 : Int32)) hx hb dL_law_1076 (by decide) ?_
  refine va_lald hx hb hG.1 hP 0 3 rfl rfl (bd_of (by decide) (by decide)) dL_law_1077 ?_
  refine lv_iload hx hb dL_law_1078 (lv_at hl 0 rfl) ?_
  refine lv_i2l hx hb dL_law_1080 rfl ?_
  refine W.lcmp hx hb dL_law_1081 ?_
  have av := ag_v ag nz_ea k0
  refine lv_if_eq (tgt := 1087) hx hb dL_law_1082 (by decide) (fun _ => ?_) (fun q => absurd (lg_same ((oV_get av.1).trans (congrArg Int32.toInt64 av.2))) q)
  refine lv_goto (tgt := 2164) hx hb dL_law_1087 (by decide) ?_
  exact kk _ _ _ _ _ _ (kl_sub hl) ag.1 hP hD hS
set_option maxRecDepth 20000 in
theorem w_deliver {p : Program} {l : Launch} {e : Env} {s : State} {m : MethodId} {below : List Frame} {meth : Method} {c : Code} {b L : Nat} {xs : Nat → Int32} {D : va_G} {cy : Nat → ClassId} {t : FxA} {A : Nat → Prop} {Q : State → Prop} {xa sa sb tr na : Nat → Nat} {ka : Nat → Nat → Nat} {a0 a1 a2 a3 a4 a5 a6 oa : Nat} (C0 : LC p l s m meth c b L xs D cy t A) {n : Nat} (hn : n + 5 ≤ L) (hL : L ≤ 2560) {cells slots : Nat} (hc : cells + 1 ≤ 601024) (hs : slots + 6 ≤ 7293034) {T : Int} (hT0 : 100000 ≤ T) (hT : T ≤ 1000000) {H : Heap} {locs : List Loc} {ls : Array Slot} {z : SpT} {mo : MoT} {f : Nat → Int64}
    (hl : lv_has ls 7 [(0, .ref b), (1, .ref (xa 0)), (2, .ref a0), (3, .ref oa), (4, .int (nI n))]) (h : PR T z mo) (hP : va_P D vwCl (wO cy oa f (wSp cy xa sa sb tr na ka z ++ wMo cy a0 a1 a2 a3 a4 a5 a6 mo)) H) (hD : va_D A (wO cy oa f (wSp cy xa sa sb tr na ka z ++ wMo cy a0 a1 a2 a3 a4 a5 a6 mo))) (hS : va_S A s.heap H locs)
    (kk : ∀ (ls : Array Slot) (H : Heap) (locs : List Loc) (z : SpT) (mo : MoT) (f : Nat → Int64), lv_has ls 7 [(0, .ref b), (1, .ref (xa 0)), (2, .ref a0), (3, .ref oa), (4, .int (nI n))] → PR (T + 99) z mo → va_P D vwCl (wO cy oa f (wSp cy xa sa sb tr na ka z ++ wMo cy a0 a1 a2 a3 a4 a5 a6 mo)) H → va_D A (wO cy oa f (wSp cy xa sa sb tr na ka z ++ wMo cy a0 a1 a2 a3 a4 a5 a6 mo)) → va_S A s.heap H locs → Wx p l e room_1 s m #[Value.ref b] below meth c H locs (cells + 1) (slots + 6) Q (F0 m 2164 ls [])) : Wx p l e room_1 s m #[Value.ref b] below meth c H locs cells slots Q (F0 m 1090 ls []) := by
  obtain ⟨hx, hb, hCF, hG, hF, hX, hbl, hbA, hA, hl0, hown⟩ := C0
  refine lv_aload_n hx hb dL_law_1090 rfl (lv_at hl 1 rfl) ?_
  refine lv_aload_n hx hb dL_law_1091 rfl (lv_at hl 0 rfl) ?_
  refine lv_iload hx hb dL_law_1092 (lv_at hl 4 rfl) ?_
  refine lv_iconst (v := (1 : Int32)) hx hb dL_law_1094 (by decide) ?_
  refine lv_iadd hx hb dL_law_1095 ?_
  refine va_sld hx hb hX hbl hbA hS (si_in (k := 1) (by omega) hL i_k1) dL_law_1096 ?_
  refine lv_aload_n hx hb dL_law_1097 rfl (lv_at hl 3 rfl) ?_
  have ag := ag_deliver (x1 := (xs (nI n + 1).toNatClampNeg)) h (by omega)
  have cL := (c_L_deliver l hl0 D cy t xa sa sb tr na ka oa f h (xs (nI n + 1).toNatClampNeg) (ag_k ag)).ctx (r := wMo cy a0 a1 a2 a3 a4 a5 a6 mo) wO_app wO_app
  have cM := ((c_X9_deliver l D cy a0 a1 a2 a3 a4 a5 a6 mo (xs (nI n + 1).toNatClampNeg) h.ro h.ac).ctx (r := wO cy oa (oV f (m_X8_deliver z (xs (nI n + 1).toNatClampNeg)).1 (m_X8_deliver z (xs (nI n + 1).toNatClampNeg)).2.1) (wSp cy xa sa sb tr na ka (m_X8_deliver z (xs (nI n + 1).toNatClampNeg)).2.2)) wO_app2 wO_app2)
  generalize m_X8_deliver z (xs (nI n + 1).toNatClampNeg) = C2 at *
  generalize m_X9_deliver mo (xs (nI n + 1).toNatClampNeg) = M2 at *
  refine hxS (A0 := A) (As := [.ref (xa 0), .int (xs (nI n + 1).toNatClampNeg), .ref oa]) (rest := []) (W1 := wO cy oa f (wSp cy xa sa sb tr na ka z ++ wMo cy a0 a1 a2 a3 a4 a5 a6 mo)) (W2 := wO cy oa (oV f C2.1 C2.2.1) (wSp cy xa sa sb tr na ka C2.2.2 ++ wMo cy a0 a1 a2 a3 a4 a5 a6 mo)) cL hCF gL_law_L_deliver rfl hq_L_deliver ⟨Nat.le_of_ble_eq_true rfl, Nat.le_of_ble_eq_true rfl⟩ hG hF hP hD hS hA (h_wL h_Sp rfl) rfl hl.1 rfl (Nat.le_of_ble_eq_true rfl) dL_law_1098 ⟨hc, hs⟩ (fun H locs hP hD hS => ?_)
  refine lv_istore (lv' := (5, .int (mR M2.2)) :: [(0, .ref b), (1, .ref (xa 0)), (2, .ref a0), (3, .ref oa), (4, .int (nI n))]) hx hb dL_law_1101 hl (by decide) rfl (fun ls hl => ?_)
  refine lv_aload_n hx hb dL_law_1103 rfl (lv_at hl 3 rfl) ?_
  refine lv_aload_n hx hb dL_law_1104 rfl (lv_at hl 1 rfl) ?_
  refine lv_iload hx hb dL_law_1105 (lv_at hl 5 rfl) ?_
  refine lv_iconst (v := (1 : Int32)) hx hb dL_law_1107 (by decide) ?_
  refine lv_iadd hx hb dL_law_1108 ?_
  refine va_sld hx hb hX hbl hbA hS (si_in (k := 1) (by omega) hL i_k1) dL_law_1109 ?_
  refine mwV (ci := 7) (A0 := A) (As := [.int (xs (nI n + 1).toNatClampNeg)]) (rest := []) (W1 := wO cy oa (oV f C2.1 C2.2.1) (wSp cy xa sa sb tr na ka C2.2.2 ++ wMo cy a0 a1 a2 a3 a4 a5 a6 mo)) (W2 := wO cy oa (oV f C2.1 C2.2.1) (wSp cy xa sa sb tr na ka C2.2.2 ++ wMo cy a0 a1 a2 a3 a4 a5 a6 M2.2)) cM hCF gL_law_X9_deliver rfl hd_X9_deliver ⟨rfl, rfl, Nat.le_of_ble_eq_true rfl, Nat.le_of_ble_eq_true rfl⟩ hG hP hD hS hA (h_wL rfl h_Mo) rfl rfl (List.mem_cons_of_mem _ (List.mem_append_right _ (List.mem_of_getElem? g_Mo_0))) rfl hl.1 rfl (Nat.le_of_ble_eq_true rfl) dL_law_1110 ⟨hc, hs⟩ (fun H locs hP hD hS => ?_)
  refine lv_istore (lv' := (6, .int M2.1) :: (5, .int (mR M2.2)) :: [(0, .ref b), (1, .ref (xa 0)), (2, .ref a0), (3, .ref oa), (4, .int (nI n))]) hx hb dL_law_1113 hl (by decide) rfl (fun ls hl => ?_)
  refine lv_aload_n hx hb dL_law_1115 rfl (lv_at hl 4 rfl) ?_
  refine rwV (ci := 7) (As := []) (rest := []) (W1 := wO cy oa (oV f C2.1 C2.2.1) (wSp cy xa sa sb tr na ka C2.2.2 ++ wMo cy a0 a1 a2 a3 a4 a5 a6 M2.2)) ((c_X9_thrown l D cy a0 a1 a2 a3 a4 a5 a6 M2.2).ctx (r := wO cy oa (oV f C2.1 C2.2.1) (wSp cy xa sa sb tr na ka C2.2.2)) wO_app2) hCF gL_law_X9_thrown rfl hd_X9_thrown ⟨rfl, rfl, Nat.le_of_ble_eq_true rfl, Nat.le_of_ble_eq_true rfl⟩ hG hP rfl rfl (List.mem_cons_of_mem _ (List.mem_append_right _ (List.mem_of_getElem? g_Mo_0))) rfl hl.1 rfl (Nat.le_of_ble_eq_true rfl) dL_law_1116 ⟨hc, hs⟩ ?_
  refine lv_iload hx hb dL_law_1119 (lv_at hl 1 rfl) ?_
  refine lv_icmp_eq (tgt := 1126) hx hb dL_law_1121 (by decide) (fun _ => ?_) (fun q => absurd rfl q)
  refine lv_iload hx hb dL_law_1126 (lv_at hl 1 rfl) ?_
  refine lv_if_ne (tgt := 1143) hx hb dL_law_1128 (by decide) (fun _ => ?_) (fun k0 => ?_)
  · refine lv_goto (tgt := 2164) hx hb dL_law_1143 (by decide) ?_
    exact kk _ _ _ _ _ _ (kl_sub hl) ag.1 hP hD hS
  refine lv_aload_n hx hb dL_law_1131 rfl (lv_at hl 5 rfl) ?_
  refine lv_iconst (v := (0 : Int32)) hx hb dL_law_1132 (by decide) ?_
  refine va_lald hx hb hG.1 hP 0 3 rfl rfl (bd_of (by decide) (by decide)) dL_law_1133 ?_
  refine lv_iload hx hb dL_law_1134 (lv_at hl 0 rfl) ?_
  refine lv_i2l hx hb dL_law_1136 rfl ?_
  refine W.lcmp hx hb dL_law_1137 ?_
  have av := ag_v ag nz_eb k0
  refine lv_if_eq (tgt := 1143) hx hb dL_law_1138 (by decide) (fun _ => ?_) (fun q => absurd (lg_same ((oV_get av.1).trans (congrArg Int32.toInt64 av.2))) q)
  refine lv_goto (tgt := 2164) hx hb dL_law_1143 (by decide) ?_
  exact kk _ _ _ _ _ _ (kl_sub hl) ag.1 hP hD hS
set_option maxRecDepth 20000 in
theorem w_take {p : Program} {l : Launch} {e : Env} {s : State} {m : MethodId} {below : List Frame} {meth : Method} {c : Code} {b L : Nat} {xs : Nat → Int32} {D : va_G} {cy : Nat → ClassId} {t : FxA} {A : Nat → Prop} {Q : State → Prop} {xa sa sb tr na : Nat → Nat} {ka : Nat → Nat → Nat} {a0 a1 a2 a3 a4 a5 a6 oa : Nat} (C0 : LC p l s m meth c b L xs D cy t A) {n : Nat} (hn : n + 5 ≤ L) (hL : L ≤ 2560) {cells slots : Nat} (hc : cells + 1 ≤ 601024) (hs : slots + 6 ≤ 7293034) {T : Int} (hT0 : 100000 ≤ T) (hT : T ≤ 1000000) {H : Heap} {locs : List Loc} {ls : Array Slot} {z : SpT} {mo : MoT} {f : Nat → Int64}
    (hl : lv_has ls 7 [(0, .ref b), (1, .ref (xa 0)), (2, .ref a0), (3, .ref oa), (4, .int (nI n))]) (h : PR T z mo) (hP : va_P D vwCl (wO cy oa f (wSp cy xa sa sb tr na ka z ++ wMo cy a0 a1 a2 a3 a4 a5 a6 mo)) H) (hD : va_D A (wO cy oa f (wSp cy xa sa sb tr na ka z ++ wMo cy a0 a1 a2 a3 a4 a5 a6 mo))) (hS : va_S A s.heap H locs)
    (kk : ∀ (ls : Array Slot) (H : Heap) (locs : List Loc) (z : SpT) (mo : MoT) (f : Nat → Int64), lv_has ls 7 [(0, .ref b), (1, .ref (xa 0)), (2, .ref a0), (3, .ref oa), (4, .int (nI n))] → PR (T + 99) z mo → va_P D vwCl (wO cy oa f (wSp cy xa sa sb tr na ka z ++ wMo cy a0 a1 a2 a3 a4 a5 a6 mo)) H → va_D A (wO cy oa f (wSp cy xa sa sb tr na ka z ++ wMo cy a0 a1 a2 a3 a4 a5 a6 mo)) → va_S A s.heap H locs → Wx p l e room_1 s m #[Value.ref b] below meth c H locs (cells + 1) (slots + 6) Q (F0 m 2164 ls [])) : Wx p l e room_1 s m #[Value.ref b] below meth c H locs cells slots Q (F0 m 1146 ls []) := by
  obtain ⟨hx, hb, hCF, hG, hF, hX, hbl, hbA, hA, hl0, hown⟩ := C0
  refine lv_aload_n hx hb dL_law_1146 rfl (lv_at hl 1 rfl) ?_
  refine lv_aload_n hx hb dL_law_1147 rfl (lv_at hl 0 rfl) ?_
  refine lv_iload hx hb dL_law_1148 (lv_at hl 4 rfl) ?_
  refine lv_iconst (v := (1 : Int32)) hx hb dL_law_1150 (by decide) ?_
  refine lv_iadd hx hb dL_law_1151 ?_
  refine va_sld hx hb hX hbl hbA hS (si_in (k := 1) (by omega) hL i_k1) dL_law_1152 ?_
  refine lv_aload_n hx hb dL_law_1153 rfl (lv_at hl 0 rfl) ?_
  refine lv_iload hx hb dL_law_1154 (lv_at hl 4 rfl) ?_
  refine lv_iconst (v := (2 : Int32)) hx hb dL_law_1156 (by decide) ?_
  refine lv_iadd hx hb dL_law_1157 ?_
  refine va_sld hx hb hX hbl hbA hS (si_in (k := 2) (by omega) hL i_k2) dL_law_1158 ?_
  refine lv_aload_n hx hb dL_law_1159 rfl (lv_at hl 0 rfl) ?_
  refine lv_iload hx hb dL_law_1160 (lv_at hl 4 rfl) ?_
  refine lv_iconst (v := (3 : Int32)) hx hb dL_law_1162 (by decide) ?_
  refine lv_iadd hx hb dL_law_1163 ?_
  refine va_sld hx hb hX hbl hbA hS (si_in (k := 3) (by omega) hL i_k3) dL_law_1164 ?_
  refine lv_aload_n hx hb dL_law_1165 rfl (lv_at hl 3 rfl) ?_
  have ag := ag_take (x1 := (xs (nI n + 1).toNatClampNeg)) (x2 := (xs (nI n + 2).toNatClampNeg)) (x3 := (xs (nI n + 3).toNatClampNeg)) h (by omega)
  have cL := (c_L_take l hl0 D cy t xa sa sb tr na ka oa f h (xs (nI n + 1).toNatClampNeg) (xs (nI n + 2).toNatClampNeg) (xs (nI n + 3).toNatClampNeg) (ag_k ag)).ctx (r := wMo cy a0 a1 a2 a3 a4 a5 a6 mo) wO_app wO_app
  have cM := ((c_X9_take l D cy a0 a1 a2 a3 a4 a5 a6 mo (xs (nI n + 1).toNatClampNeg) (xs (nI n + 2).toNatClampNeg) (xs (nI n + 3).toNatClampNeg) h.ro h.ac).ctx (r := wO cy oa (oV f (m_X8_take z (xs (nI n + 1).toNatClampNeg) (xs (nI n + 2).toNatClampNeg) (xs (nI n + 3).toNatClampNeg)).1 (m_X8_take z (xs (nI n + 1).toNatClampNeg) (xs (nI n + 2).toNatClampNeg) (xs (nI n + 3).toNatClampNeg)).2.1) (wSp cy xa sa sb tr na ka (m_X8_take z (xs (nI n + 1).toNatClampNeg) (xs (nI n + 2).toNatClampNeg) (xs (nI n + 3).toNatClampNeg)).2.2)) wO_app2 wO_app2)
  generalize m_X8_take z (xs (nI n + 1).toNatClampNeg) (xs (nI n + 2).toNatClampNeg) (xs (nI n + 3).toNatClampNeg) = C2 at *
  generalize m_X9_take mo (xs (nI n + 1).toNatClampNeg) (xs (nI n + 2).toNatClampNeg) (xs (nI n + 3).toNatClampNeg) = M2 at *
  refine hxS (A0 := A) (As := [.ref (xa 0), .int (xs (nI n + 1).toNatClampNeg), .int (xs (nI n + 2).toNatClampNeg), .int (xs (nI n + 3).toNatClampNeg), .ref oa]) (rest := []) (W1 := wO cy oa f (wSp cy xa sa sb tr na ka z ++ wMo cy a0 a1 a2 a3 a4 a5 a6 mo)) (W2 := wO cy oa (oV f C2.1 C2.2.1) (wSp cy xa sa sb tr na ka C2.2.2 ++ wMo cy a0 a1 a2 a3 a4 a5 a6 mo)) cL hCF gL_law_L_take rfl hq_L_take ⟨Nat.le_of_ble_eq_true rfl, Nat.le_of_ble_eq_true rfl⟩ hG hF hP hD hS hA (h_wL h_Sp rfl) rfl hl.1 rfl (Nat.le_of_ble_eq_true rfl) dL_law_1166 ⟨hc, hs⟩ (fun H locs hP hD hS => ?_)
  refine lv_istore (lv' := (5, .int (mR M2.2)) :: [(0, .ref b), (1, .ref (xa 0)), (2, .ref a0), (3, .ref oa), (4, .int (nI n))]) hx hb dL_law_1169 hl (by decide) rfl (fun ls hl => ?_)
  refine lv_aload_n hx hb dL_law_1171 rfl (lv_at hl 3 rfl) ?_
  refine lv_aload_n hx hb dL_law_1172 rfl (lv_at hl 1 rfl) ?_
  refine lv_iload hx hb dL_law_1173 (lv_at hl 5 rfl) ?_
  refine lv_iconst (v := (1 : Int32)) hx hb dL_law_1175 (by decide) ?_
  refine lv_iadd hx hb dL_law_1176 ?_
  refine va_sld hx hb hX hbl hbA hS (si_in (k := 1) (by omega) hL i_k1) dL_law_1177 ?_
  refine lv_aload_n hx hb dL_law_1178 rfl (lv_at hl 1 rfl) ?_
  refine lv_iload hx hb dL_law_1179 (lv_at hl 5 rfl) ?_
  refine lv_iconst (v := (2 : Int32)) hx hb dL_law_1181 (by decide) ?_
  refine lv_iadd hx hb dL_law_1182 ?_
  refine va_sld hx hb hX hbl hbA hS (si_in (k := 2) (by omega) hL i_k2) dL_law_1183 ?_
  refine lv_aload_n hx hb dL_law_1184 rfl (lv_at hl 1 rfl) ?_
  refine lv_iload hx hb dL_law_1185 (lv_at hl 5 rfl) ?_
  refine lv_iconst (v := (3 : Int32)) hx hb dL_law_1187 (by decide) ?_
  refine lv_iadd hx hb dL_law_1188 ?_
  refine va_sld hx hb hX hbl hbA hS (si_in (k := 3) (by omega) hL i_k3) dL_law_1189 ?_
  refine mwV (ci := 7) (A0 := A) (As := [.int (xs (nI n + 1).toNatClampNeg), .int (xs (nI n + 2).toNatClampNeg), .int (xs (nI n + 3).toNatClampNeg)]) (rest := []) (W1 := wO cy oa (oV f C2.1 C2.2.1) (wSp cy xa sa sb tr na ka C2.2.2 ++ wMo cy a0 a1 a2 a3 a4 a5 a6 mo)) (W2 := wO cy oa (oV f C2.1 C2.2.1) (wSp cy xa sa sb tr na ka C2.2.2 ++ wMo cy a0 a1 a2 a3 a4 a5 a6 M2.2)) cM hCF gL_law_X9_take rfl hd_X9_take ⟨rfl, rfl, Nat.le_of_ble_eq_true rfl, Nat.le_of_ble_eq_true rfl⟩ hG hP hD hS hA (h_wL rfl h_Mo) rfl rfl (List.mem_cons_of_mem _ (List.mem_append_right _ (List.mem_of_getElem? g_Mo_0))) rfl hl.1 rfl (Nat.le_of_ble_eq_true rfl) dL_law_1190 ⟨hc, hs⟩ (fun H locs hP hD hS => ?_)
  refine lv_istore (lv' := (6, .int M2.1) :: (5, .int (mR M2.2)) :: [(0, .ref b), (1, .ref (xa 0)), (2, .ref a0), (3, .ref oa), (4, .int (nI n))]) hx hb dL_law_1193 hl (by decide) rfl (fun ls hl => ?_)
  refine lv_aload_n hx hb dL_law_1195 rfl (lv_at hl 4 rfl) ?_
  refine rwV (ci := 7) (As := []) (rest := []) (W1 := wO cy oa (oV f C2.1 C2.2.1) (wSp cy xa sa sb tr na ka C2.2.2 ++ wMo cy a0 a1 a2 a3 a4 a5 a6 M2.2)) ((c_X9_thrown l D cy a0 a1 a2 a3 a4 a5 a6 M2.2).ctx (r := wO cy oa (oV f C2.1 C2.2.1) (wSp cy xa sa sb tr na ka C2.2.2)) wO_app2) hCF gL_law_X9_thrown rfl hd_X9_thrown ⟨rfl, rfl, Nat.le_of_ble_eq_true rfl, Nat.le_of_ble_eq_true rfl⟩ hG hP rfl rfl (List.mem_cons_of_mem _ (List.mem_append_right _ (List.mem_of_getElem? g_Mo_0))) rfl hl.1 rfl (Nat.le_of_ble_eq_true rfl) dL_law_1196 ⟨hc, hs⟩ ?_
  refine lv_iload hx hb dL_law_1199 (lv_at hl 1 rfl) ?_
  refine lv_icmp_eq (tgt := 1206) hx hb dL_law_1201 (by decide) (fun _ => ?_) (fun q => absurd rfl q)
  refine lv_iload hx hb dL_law_1206 (lv_at hl 1 rfl) ?_
  refine lv_if_ne (tgt := 1223) hx hb dL_law_1208 (by decide) (fun _ => ?_) (fun k0 => ?_)
  · refine lv_goto (tgt := 2164) hx hb dL_law_1223 (by decide) ?_
    exact kk _ _ _ _ _ _ (kl_sub hl) ag.1 hP hD hS
  refine lv_aload_n hx hb dL_law_1211 rfl (lv_at hl 5 rfl) ?_
  refine lv_iconst (v := (0 : Int32)) hx hb dL_law_1212 (by decide) ?_
  refine va_lald hx hb hG.1 hP 0 3 rfl rfl (bd_of (by decide) (by decide)) dL_law_1213 ?_
  refine lv_iload hx hb dL_law_1214 (lv_at hl 0 rfl) ?_
  refine lv_i2l hx hb dL_law_1216 rfl ?_
  refine W.lcmp hx hb dL_law_1217 ?_
  have av := ag_v ag nz_eb k0
  refine lv_if_eq (tgt := 1223) hx hb dL_law_1218 (by decide) (fun _ => ?_) (fun q => absurd (lg_same ((oV_get av.1).trans (congrArg Int32.toInt64 av.2))) q)
  refine lv_goto (tgt := 2164) hx hb dL_law_1223 (by decide) ?_
  exact kk _ _ _ _ _ _ (kl_sub hl) ag.1 hP hD hS
set_option maxRecDepth 20000 in
theorem w_settle {p : Program} {l : Launch} {e : Env} {s : State} {m : MethodId} {below : List Frame} {meth : Method} {c : Code} {b L : Nat} {xs : Nat → Int32} {D : va_G} {cy : Nat → ClassId} {t : FxA} {A : Nat → Prop} {Q : State → Prop} {xa sa sb tr na : Nat → Nat} {ka : Nat → Nat → Nat} {a0 a1 a2 a3 a4 a5 a6 oa : Nat} (C0 : LC p l s m meth c b L xs D cy t A) {n : Nat} (hn : n + 5 ≤ L) (hL : L ≤ 2560) {cells slots : Nat} (hc : cells + 1 ≤ 601024) (hs : slots + 6 ≤ 7293034) {T : Int} (hT0 : 100000 ≤ T) (hT : T ≤ 1000000) {H : Heap} {locs : List Loc} {ls : Array Slot} {z : SpT} {mo : MoT} {f : Nat → Int64}
    (hl : lv_has ls 7 [(0, .ref b), (1, .ref (xa 0)), (2, .ref a0), (3, .ref oa), (4, .int (nI n))]) (h : PR T z mo) (hP : va_P D vwCl (wO cy oa f (wSp cy xa sa sb tr na ka z ++ wMo cy a0 a1 a2 a3 a4 a5 a6 mo)) H) (hD : va_D A (wO cy oa f (wSp cy xa sa sb tr na ka z ++ wMo cy a0 a1 a2 a3 a4 a5 a6 mo))) (hS : va_S A s.heap H locs)
    (kk : ∀ (ls : Array Slot) (H : Heap) (locs : List Loc) (z : SpT) (mo : MoT) (f : Nat → Int64), lv_has ls 7 [(0, .ref b), (1, .ref (xa 0)), (2, .ref a0), (3, .ref oa), (4, .int (nI n))] → PR (T + 99) z mo → va_P D vwCl (wO cy oa f (wSp cy xa sa sb tr na ka z ++ wMo cy a0 a1 a2 a3 a4 a5 a6 mo)) H → va_D A (wO cy oa f (wSp cy xa sa sb tr na ka z ++ wMo cy a0 a1 a2 a3 a4 a5 a6 mo)) → va_S A s.heap H locs → Wx p l e room_1 s m #[Value.ref b] below meth c H locs (cells + 1) (slots + 6) Q (F0 m 2164 ls [])) : Wx p l e room_1 s m #[Value.ref b] below meth c H locs cells slots Q (F0 m 1226 ls []) := by
  obtain ⟨hx, hb, hCF, hG, hF, hX, hbl, hbA, hA, hl0, hown⟩ := C0
  refine lv_aload_n hx hb dL_law_1226 rfl (lv_at hl 1 rfl) ?_
  refine lv_aload_n hx hb dL_law_1227 rfl (lv_at hl 0 rfl) ?_
  refine lv_iload hx hb dL_law_1228 (lv_at hl 4 rfl) ?_
  refine lv_iconst (v := (1 : Int32)) hx hb dL_law_1230 (by decide) ?_
  refine lv_iadd hx hb dL_law_1231 ?_
  refine va_sld hx hb hX hbl hbA hS (si_in (k := 1) (by omega) hL i_k1) dL_law_1232 ?_
  refine lv_aload_n hx hb dL_law_1233 rfl (lv_at hl 0 rfl) ?_
  refine lv_iload hx hb dL_law_1234 (lv_at hl 4 rfl) ?_
  refine lv_iconst (v := (2 : Int32)) hx hb dL_law_1236 (by decide) ?_
  refine lv_iadd hx hb dL_law_1237 ?_
  refine va_sld hx hb hX hbl hbA hS (si_in (k := 2) (by omega) hL i_k2) dL_law_1238 ?_
  refine lv_aload_n hx hb dL_law_1239 rfl (lv_at hl 0 rfl) ?_
  refine lv_iload hx hb dL_law_1240 (lv_at hl 4 rfl) ?_
  refine lv_iconst (v := (3 : Int32)) hx hb dL_law_1242 (by decide) ?_
  refine lv_iadd hx hb dL_law_1243 ?_
  refine va_sld hx hb hX hbl hbA hS (si_in (k := 3) (by omega) hL i_k3) dL_law_1244 ?_
  refine lv_aload_n hx hb dL_law_1245 rfl (lv_at hl 0 rfl) ?_
  refine lv_iload hx hb dL_law_1246 (lv_at hl 4 rfl) ?_
  refine lv_iconst (v := (4 : Int32)) hx hb dL_law_1248 (by decide) ?_
  refine lv_iadd hx hb dL_law_1249 ?_
  refine va_sld hx hb hX hbl hbA hS (si_in (k := 4) (by omega) hL i_k4) dL_law_1250 ?_
  refine lv_aload_n hx hb dL_law_1251 rfl (lv_at hl 3 rfl) ?_
  have ag := ag_settle (x1 := (xs (nI n + 1).toNatClampNeg)) (x2 := (xs (nI n + 2).toNatClampNeg)) (x3 := (xs (nI n + 3).toNatClampNeg)) (x4 := (xs (nI n + 4).toNatClampNeg)) h (by omega)
  have cL := (c_L_settle l hl0 D cy t xa sa sb tr na ka oa f h (xs (nI n + 1).toNatClampNeg) (xs (nI n + 2).toNatClampNeg) (xs (nI n + 3).toNatClampNeg) (xs (nI n + 4).toNatClampNeg) (ag_k ag)).ctx (r := wMo cy a0 a1 a2 a3 a4 a5 a6 mo) wO_app wO_app
  have cM := ((c_X9_settle l D cy a0 a1 a2 a3 a4 a5 a6 mo (xs (nI n + 1).toNatClampNeg) (xs (nI n + 2).toNatClampNeg) (xs (nI n + 3).toNatClampNeg) (xs (nI n + 4).toNatClampNeg) h.ro h.ac).ctx (r := wO cy oa (oV f (m_X8_settle z (xs (nI n + 1).toNatClampNeg) (xs (nI n + 2).toNatClampNeg) (xs (nI n + 3).toNatClampNeg) (xs (nI n + 4).toNatClampNeg)).1 (m_X8_settle z (xs (nI n + 1).toNatClampNeg) (xs (nI n + 2).toNatClampNeg) (xs (nI n + 3).toNatClampNeg) (xs (nI n + 4).toNatClampNeg)).2.1) (wSp cy xa sa sb tr na ka (m_X8_settle z (xs (nI n + 1).toNatClampNeg) (xs (nI n + 2).toNatClampNeg) (xs (nI n + 3).toNatClampNeg) (xs (nI n + 4).toNatClampNeg)).2.2)) wO_app2 wO_app2)
  generalize m_X8_settle z (xs (nI n + 1).toNatClampNeg) (xs (nI n + 2).toNatClampNeg) (xs (nI n + 3).toNatClampNeg) (xs (nI n + 4).toNatClampNeg) = C2 at *
  generalize m_X9_settle mo (xs (nI n + 1).toNatClampNeg) (xs (nI n + 2).toNatClampNeg) (xs (nI n + 3).toNatClampNeg) (xs (nI n + 4).toNatClampNeg) = M2 at *
  refine hxS (A0 := A) (As := [.ref (xa 0), .int (xs (nI n + 1).toNatClampNeg), .int (xs (nI n + 2).toNatClampNeg), .int (xs (nI n + 3).toNatClampNeg), .int (xs (nI n + 4).toNatClampNeg), .ref oa]) (rest := []) (W1 := wO cy oa f (wSp cy xa sa sb tr na ka z ++ wMo cy a0 a1 a2 a3 a4 a5 a6 mo)) (W2 := wO cy oa (oV f C2.1 C2.2.1) (wSp cy xa sa sb tr na ka C2.2.2 ++ wMo cy a0 a1 a2 a3 a4 a5 a6 mo)) cL hCF gL_law_L_settle rfl hq_L_settle ⟨Nat.le_of_ble_eq_true rfl, Nat.le_of_ble_eq_true rfl⟩ hG hF hP hD hS hA (h_wL h_Sp rfl) rfl hl.1 rfl (Nat.le_of_ble_eq_true rfl) dL_law_1252 ⟨hc, hs⟩ (fun H locs hP hD hS => ?_)
  refine lv_istore (lv' := (5, .int (mR M2.2)) :: [(0, .ref b), (1, .ref (xa 0)), (2, .ref a0), (3, .ref oa), (4, .int (nI n))]) hx hb dL_law_1255 hl (by decide) rfl (fun ls hl => ?_)
  refine lv_aload_n hx hb dL_law_1257 rfl (lv_at hl 3 rfl) ?_
  refine lv_aload_n hx hb dL_law_1258 rfl (lv_at hl 1 rfl) ?_
  refine lv_iload hx hb dL_law_1259 (lv_at hl 5 rfl) ?_
  refine lv_iconst (v := (1 : Int32)) hx hb dL_law_1261 (by decide) ?_
  refine lv_iadd hx hb dL_law_1262 ?_
  refine va_sld hx hb hX hbl hbA hS (si_in (k := 1) (by omega) hL i_k1) dL_law_1263 ?_
  refine lv_aload_n hx hb dL_law_1264 rfl (lv_at hl 1 rfl) ?_
  refine lv_iload hx hb dL_law_1265 (lv_at hl 5 rfl) ?_
  refine lv_iconst (v := (2 : Int32)) hx hb dL_law_1267 (by decide) ?_
  refine lv_iadd hx hb dL_law_1268 ?_
  refine va_sld hx hb hX hbl hbA hS (si_in (k := 2) (by omega) hL i_k2) dL_law_1269 ?_
  refine lv_aload_n hx hb dL_law_1270 rfl (lv_at hl 1 rfl) ?_
  refine lv_iload hx hb dL_law_1271 (lv_at hl 5 rfl) ?_
  refine lv_iconst (v := (3 : Int32)) hx hb dL_law_1273 (by decide) ?_
  refine lv_iadd hx hb dL_law_1274 ?_
  refine va_sld hx hb hX hbl hbA hS (si_in (k := 3) (by omega) hL i_k3) dL_law_1275 ?_
  refine lv_aload_n hx hb dL_law_1276 rfl (lv_at hl 1 rfl) ?_
  refine lv_iload hx hb dL_law_1277 (lv_at hl 5 rfl) ?_
  refine lv_iconst (v := (4 : Int32)) hx hb dL_law_1279 (by decide) ?_
  refine lv_iadd hx hb dL_law_1280 ?_
  refine va_sld hx hb hX hbl hbA hS (si_in (k := 4) (by omega) hL i_k4) dL_law_1281 ?_
  refine mwV (ci := 7) (A0 := A) (As := [.int (xs (nI n + 1).toNatClampNeg), .int (xs (nI n + 2).toNatClampNeg), .int (xs (nI n + 3).toNatClampNeg), .int (xs (nI n + 4).toNatClampNeg)]) (rest := []) (W1 := wO cy oa (oV f C2.1 C2.2.1) (wSp cy xa sa sb tr na ka C2.2.2 ++ wMo cy a0 a1 a2 a3 a4 a5 a6 mo)) (W2 := wO cy oa (oV f C2.1 C2.2.1) (wSp cy xa sa sb tr na ka C2.2.2 ++ wMo cy a0 a1 a2 a3 a4 a5 a6 M2.2)) cM hCF gL_law_X9_settle rfl hd_X9_settle ⟨rfl, rfl, Nat.le_of_ble_eq_true rfl, Nat.le_of_ble_eq_true rfl⟩ hG hP hD hS hA (h_wL rfl h_Mo) rfl rfl (List.mem_cons_of_mem _ (List.mem_append_right _ (List.mem_of_getElem? g_Mo_0))) rfl hl.1 rfl (Nat.le_of_ble_eq_true rfl) dL_law_1282 ⟨hc, hs⟩ (fun H locs hP hD hS => ?_)
  refine lv_istore (lv' := (6, .int M2.1) :: (5, .int (mR M2.2)) :: [(0, .ref b), (1, .ref (xa 0)), (2, .ref a0), (3, .ref oa), (4, .int (nI n))]) hx hb dL_law_1285 hl (by decide) rfl (fun ls hl => ?_)
  refine lv_aload_n hx hb dL_law_1287 rfl (lv_at hl 4 rfl) ?_
  refine rwV (ci := 7) (As := []) (rest := []) (W1 := wO cy oa (oV f C2.1 C2.2.1) (wSp cy xa sa sb tr na ka C2.2.2 ++ wMo cy a0 a1 a2 a3 a4 a5 a6 M2.2)) ((c_X9_thrown l D cy a0 a1 a2 a3 a4 a5 a6 M2.2).ctx (r := wO cy oa (oV f C2.1 C2.2.1) (wSp cy xa sa sb tr na ka C2.2.2)) wO_app2) hCF gL_law_X9_thrown rfl hd_X9_thrown ⟨rfl, rfl, Nat.le_of_ble_eq_true rfl, Nat.le_of_ble_eq_true rfl⟩ hG hP rfl rfl (List.mem_cons_of_mem _ (List.mem_append_right _ (List.mem_of_getElem? g_Mo_0))) rfl hl.1 rfl (Nat.le_of_ble_eq_true rfl) dL_law_1288 ⟨hc, hs⟩ ?_
  refine lv_iload hx hb dL_law_1291 (lv_at hl 1 rfl) ?_
  refine lv_icmp_eq (tgt := 1298) hx hb dL_law_1293 (by decide) (fun _ => ?_) (fun q => absurd rfl q)
  refine lv_iload hx hb dL_law_1298 (lv_at hl 1 rfl) ?_
  refine lv_if_ne (tgt := 1315) hx hb dL_law_1300 (by decide) (fun _ => ?_) (fun k0 => ?_)
  · refine lv_goto (tgt := 2164) hx hb dL_law_1315 (by decide) ?_
    exact kk _ _ _ _ _ _ (kl_sub hl) ag.1 hP hD hS
  refine lv_aload_n hx hb dL_law_1303 rfl (lv_at hl 5 rfl) ?_
  refine lv_iconst (v := (0 : Int32)) hx hb dL_law_1304 (by decide) ?_
  refine va_lald hx hb hG.1 hP 0 3 rfl rfl (bd_of (by decide) (by decide)) dL_law_1305 ?_
  refine lv_iload hx hb dL_law_1306 (lv_at hl 0 rfl) ?_
  refine lv_i2l hx hb dL_law_1308 rfl ?_
  refine W.lcmp hx hb dL_law_1309 ?_
  have av := ag_v ag nz_eb k0
  refine lv_if_eq (tgt := 1315) hx hb dL_law_1310 (by decide) (fun _ => ?_) (fun q => absurd (lg_same ((oV_get av.1).trans (congrArg Int32.toInt64 av.2))) q)
  refine lv_goto (tgt := 2164) hx hb dL_law_1315 (by decide) ?_
  exact kk _ _ _ _ _ _ (kl_sub hl) ag.1 hP hD hS
set_option maxRecDepth 20000 in
theorem w_buy {p : Program} {l : Launch} {e : Env} {s : State} {m : MethodId} {below : List Frame} {meth : Method} {c : Code} {b L : Nat} {xs : Nat → Int32} {D : va_G} {cy : Nat → ClassId} {t : FxA} {A : Nat → Prop} {Q : State → Prop} {xa sa sb tr na : Nat → Nat} {ka : Nat → Nat → Nat} {a0 a1 a2 a3 a4 a5 a6 oa : Nat} (C0 : LC p l s m meth c b L xs D cy t A) {n : Nat} (hn : n + 5 ≤ L) (hL : L ≤ 2560) {cells slots : Nat} (hc : cells + 1 ≤ 601024) (hs : slots + 6 ≤ 7293034) {T : Int} (hT0 : 100000 ≤ T) (hT : T ≤ 1000000) {H : Heap} {locs : List Loc} {ls : Array Slot} {z : SpT} {mo : MoT} {f : Nat → Int64}
    (hl : lv_has ls 7 [(0, .ref b), (1, .ref (xa 0)), (2, .ref a0), (3, .ref oa), (4, .int (nI n))]) (h : PR T z mo) (hP : va_P D vwCl (wO cy oa f (wSp cy xa sa sb tr na ka z ++ wMo cy a0 a1 a2 a3 a4 a5 a6 mo)) H) (hD : va_D A (wO cy oa f (wSp cy xa sa sb tr na ka z ++ wMo cy a0 a1 a2 a3 a4 a5 a6 mo))) (hS : va_S A s.heap H locs)
    (kk : ∀ (ls : Array Slot) (H : Heap) (locs : List Loc) (z : SpT) (mo : MoT) (f : Nat → Int64), lv_has ls 7 [(0, .ref b), (1, .ref (xa 0)), (2, .ref a0), (3, .ref oa), (4, .int (nI n))] → PR (T + 99) z mo → va_P D vwCl (wO cy oa f (wSp cy xa sa sb tr na ka z ++ wMo cy a0 a1 a2 a3 a4 a5 a6 mo)) H → va_D A (wO cy oa f (wSp cy xa sa sb tr na ka z ++ wMo cy a0 a1 a2 a3 a4 a5 a6 mo)) → va_S A s.heap H locs → Wx p l e room_1 s m #[Value.ref b] below meth c H locs (cells + 1) (slots + 6) Q (F0 m 2164 ls [])) : Wx p l e room_1 s m #[Value.ref b] below meth c H locs cells slots Q (F0 m 1318 ls []) := by
  obtain ⟨hx, hb, hCF, hG, hF, hX, hbl, hbA, hA, hl0, hown⟩ := C0
  refine lv_aload_n hx hb dL_law_1318 rfl (lv_at hl 1 rfl) ?_
  refine lv_aload_n hx hb dL_law_1319 rfl (lv_at hl 0 rfl) ?_
  refine lv_iload hx hb dL_law_1320 (lv_at hl 4 rfl) ?_
  refine lv_iconst (v := (1 : Int32)) hx hb dL_law_1322 (by decide) ?_
  refine lv_iadd hx hb dL_law_1323 ?_
  refine va_sld hx hb hX hbl hbA hS (si_in (k := 1) (by omega) hL i_k1) dL_law_1324 ?_
  refine lv_aload_n hx hb dL_law_1325 rfl (lv_at hl 0 rfl) ?_
  refine lv_iload hx hb dL_law_1326 (lv_at hl 4 rfl) ?_
  refine lv_iconst (v := (2 : Int32)) hx hb dL_law_1328 (by decide) ?_
  refine lv_iadd hx hb dL_law_1329 ?_
  refine va_sld hx hb hX hbl hbA hS (si_in (k := 2) (by omega) hL i_k2) dL_law_1330 ?_
  refine lv_aload_n hx hb dL_law_1331 rfl (lv_at hl 3 rfl) ?_
  have ag := ag_buy (x1 := (xs (nI n + 1).toNatClampNeg)) (x2 := (xs (nI n + 2).toNatClampNeg)) h (by omega)
  have cL := (c_L_buy l hl0 D cy t xa sa sb tr na ka oa f h (xs (nI n + 1).toNatClampNeg) (xs (nI n + 2).toNatClampNeg) (ag_k ag)).ctx (r := wMo cy a0 a1 a2 a3 a4 a5 a6 mo) wO_app wO_app
  have cM := ((c_X9_buy l D cy a0 a1 a2 a3 a4 a5 a6 mo (xs (nI n + 1).toNatClampNeg) (xs (nI n + 2).toNatClampNeg) h.ro h.ac).ctx (r := wO cy oa (oV f (m_X8_buy z (xs (nI n + 1).toNatClampNeg) (xs (nI n + 2).toNatClampNeg)).1 (m_X8_buy z (xs (nI n + 1).toNatClampNeg) (xs (nI n + 2).toNatClampNeg)).2.1) (wSp cy xa sa sb tr na ka (m_X8_buy z (xs (nI n + 1).toNatClampNeg) (xs (nI n + 2).toNatClampNeg)).2.2)) wO_app2 wO_app2)
  generalize m_X8_buy z (xs (nI n + 1).toNatClampNeg) (xs (nI n + 2).toNatClampNeg) = C2 at *
  generalize m_X9_buy mo (xs (nI n + 1).toNatClampNeg) (xs (nI n + 2).toNatClampNeg) = M2 at *
  refine hxS (A0 := A) (As := [.ref (xa 0), .int (xs (nI n + 1).toNatClampNeg), .int (xs (nI n + 2).toNatClampNeg), .ref oa]) (rest := []) (W1 := wO cy oa f (wSp cy xa sa sb tr na ka z ++ wMo cy a0 a1 a2 a3 a4 a5 a6 mo)) (W2 := wO cy oa (oV f C2.1 C2.2.1) (wSp cy xa sa sb tr na ka C2.2.2 ++ wMo cy a0 a1 a2 a3 a4 a5 a6 mo)) cL hCF gL_law_L_buy rfl hq_L_buy ⟨Nat.le_of_ble_eq_true rfl, Nat.le_of_ble_eq_true rfl⟩ hG hF hP hD hS hA (h_wL h_Sp rfl) rfl hl.1 rfl (Nat.le_of_ble_eq_true rfl) dL_law_1332 ⟨hc, hs⟩ (fun H locs hP hD hS => ?_)
  refine lv_istore (lv' := (5, .int (mR M2.2)) :: [(0, .ref b), (1, .ref (xa 0)), (2, .ref a0), (3, .ref oa), (4, .int (nI n))]) hx hb dL_law_1335 hl (by decide) rfl (fun ls hl => ?_)
  refine lv_aload_n hx hb dL_law_1337 rfl (lv_at hl 3 rfl) ?_
  refine lv_aload_n hx hb dL_law_1338 rfl (lv_at hl 1 rfl) ?_
  refine lv_iload hx hb dL_law_1339 (lv_at hl 5 rfl) ?_
  refine lv_iconst (v := (1 : Int32)) hx hb dL_law_1341 (by decide) ?_
  refine lv_iadd hx hb dL_law_1342 ?_
  refine va_sld hx hb hX hbl hbA hS (si_in (k := 1) (by omega) hL i_k1) dL_law_1343 ?_
  refine lv_aload_n hx hb dL_law_1344 rfl (lv_at hl 1 rfl) ?_
  refine lv_iload hx hb dL_law_1345 (lv_at hl 5 rfl) ?_
  refine lv_iconst (v := (2 : Int32)) hx hb dL_law_1347 (by decide) ?_
  refine lv_iadd hx hb dL_law_1348 ?_
  refine va_sld hx hb hX hbl hbA hS (si_in (k := 2) (by omega) hL i_k2) dL_law_1349 ?_
  refine mwV (ci := 7) (A0 := A) (As := [.int (xs (nI n + 1).toNatClampNeg), .int (xs (nI n + 2).toNatClampNeg)]) (rest := []) (W1 := wO cy oa (oV f C2.1 C2.2.1) (wSp cy xa sa sb tr na ka C2.2.2 ++ wMo cy a0 a1 a2 a3 a4 a5 a6 mo)) (W2 := wO cy oa (oV f C2.1 C2.2.1) (wSp cy xa sa sb tr na ka C2.2.2 ++ wMo cy a0 a1 a2 a3 a4 a5 a6 M2.2)) cM hCF gL_law_X9_buy rfl hd_X9_buy ⟨rfl, rfl, Nat.le_of_ble_eq_true rfl, Nat.le_of_ble_eq_true rfl⟩ hG hP hD hS hA (h_wL rfl h_Mo) rfl rfl (List.mem_cons_of_mem _ (List.mem_append_right _ (List.mem_of_getElem? g_Mo_0))) rfl hl.1 rfl (Nat.le_of_ble_eq_true rfl) dL_law_1350 ⟨hc, hs⟩ (fun H locs hP hD hS => ?_)
  refine lv_istore (lv' := (6, .int M2.1) :: (5, .int (mR M2.2)) :: [(0, .ref b), (1, .ref (xa 0)), (2, .ref a0), (3, .ref oa), (4, .int (nI n))]) hx hb dL_law_1353 hl (by decide) rfl (fun ls hl => ?_)
  refine lv_aload_n hx hb dL_law_1355 rfl (lv_at hl 4 rfl) ?_
  refine rwV (ci := 7) (As := []) (rest := []) (W1 := wO cy oa (oV f C2.1 C2.2.1) (wSp cy xa sa sb tr na ka C2.2.2 ++ wMo cy a0 a1 a2 a3 a4 a5 a6 M2.2)) ((c_X9_thrown l D cy a0 a1 a2 a3 a4 a5 a6 M2.2).ctx (r := wO cy oa (oV f C2.1 C2.2.1) (wSp cy xa sa sb tr na ka C2.2.2)) wO_app2) hCF gL_law_X9_thrown rfl hd_X9_thrown ⟨rfl, rfl, Nat.le_of_ble_eq_true rfl, Nat.le_of_ble_eq_true rfl⟩ hG hP rfl rfl (List.mem_cons_of_mem _ (List.mem_append_right _ (List.mem_of_getElem? g_Mo_0))) rfl hl.1 rfl (Nat.le_of_ble_eq_true rfl) dL_law_1356 ⟨hc, hs⟩ ?_
  refine lv_iload hx hb dL_law_1359 (lv_at hl 1 rfl) ?_
  refine lv_icmp_eq (tgt := 1366) hx hb dL_law_1361 (by decide) (fun _ => ?_) (fun q => absurd rfl q)
  refine lv_iload hx hb dL_law_1366 (lv_at hl 1 rfl) ?_
  refine lv_if_ne (tgt := 1383) hx hb dL_law_1368 (by decide) (fun _ => ?_) (fun k0 => ?_)
  · refine lv_goto (tgt := 2164) hx hb dL_law_1383 (by decide) ?_
    exact kk _ _ _ _ _ _ (kl_sub hl) ag.1 hP hD hS
  refine lv_aload_n hx hb dL_law_1371 rfl (lv_at hl 5 rfl) ?_
  refine lv_iconst (v := (0 : Int32)) hx hb dL_law_1372 (by decide) ?_
  refine va_lald hx hb hG.1 hP 0 3 rfl rfl (bd_of (by decide) (by decide)) dL_law_1373 ?_
  refine lv_iload hx hb dL_law_1374 (lv_at hl 0 rfl) ?_
  refine lv_i2l hx hb dL_law_1376 rfl ?_
  refine W.lcmp hx hb dL_law_1377 ?_
  have av := ag_v ag nz_eb k0
  refine lv_if_eq (tgt := 1383) hx hb dL_law_1378 (by decide) (fun _ => ?_) (fun q => absurd (lg_same ((oV_get av.1).trans (congrArg Int32.toInt64 av.2))) q)
  refine lv_goto (tgt := 2164) hx hb dL_law_1383 (by decide) ?_
  exact kk _ _ _ _ _ _ (kl_sub hl) ag.1 hP hD hS
set_option maxRecDepth 20000 in
theorem w_days {p : Program} {l : Launch} {e : Env} {s : State} {m : MethodId} {below : List Frame} {meth : Method} {c : Code} {b L : Nat} {xs : Nat → Int32} {D : va_G} {cy : Nat → ClassId} {t : FxA} {A : Nat → Prop} {Q : State → Prop} {xa sa sb tr na : Nat → Nat} {ka : Nat → Nat → Nat} {a0 a1 a2 a3 a4 a5 a6 oa : Nat} (C0 : LC p l s m meth c b L xs D cy t A) {n : Nat} (hn : n + 5 ≤ L) (hL : L ≤ 2560) {cells slots : Nat} (hc : cells + 1 ≤ 601024) (hs : slots + 6 ≤ 7293034) {T : Int} (hT0 : 100000 ≤ T) (hT : T ≤ 1000000) {H : Heap} {locs : List Loc} {ls : Array Slot} {z : SpT} {mo : MoT} {f : Nat → Int64}
    (hl : lv_has ls 7 [(0, .ref b), (1, .ref (xa 0)), (2, .ref a0), (3, .ref oa), (4, .int (nI n))]) (h : PR T z mo) (hP : va_P D vwCl (wO cy oa f (wSp cy xa sa sb tr na ka z ++ wMo cy a0 a1 a2 a3 a4 a5 a6 mo)) H) (hD : va_D A (wO cy oa f (wSp cy xa sa sb tr na ka z ++ wMo cy a0 a1 a2 a3 a4 a5 a6 mo))) (hS : va_S A s.heap H locs)
    (kk : ∀ (ls : Array Slot) (H : Heap) (locs : List Loc) (z : SpT) (mo : MoT) (f : Nat → Int64), lv_has ls 7 [(0, .ref b), (1, .ref (xa 0)), (2, .ref a0), (3, .ref oa), (4, .int (nI n))] → PR (T + 99) z mo → va_P D vwCl (wO cy oa f (wSp cy xa sa sb tr na ka z ++ wMo cy a0 a1 a2 a3 a4 a5 a6 mo)) H → va_D A (wO cy oa f (wSp cy xa sa sb tr na ka z ++ wMo cy a0 a1 a2 a3 a4 a5 a6 mo)) → va_S A s.heap H locs → Wx p l e room_1 s m #[Value.ref b] below meth c H locs (cells + 1) (slots + 6) Q (F0 m 2164 ls [])) : Wx p l e room_1 s m #[Value.ref b] below meth c H locs cells slots Q (F0 m 1386 ls []) := by
  obtain ⟨hx, hb, hCF, hG, hF, hX, hbl, hbA, hA, hl0, hown⟩ := C0
  refine lv_aload_n hx hb dL_law_1386 rfl (lv_at hl 1 rfl) ?_
  refine lv_aload_n hx hb dL_law_1387 rfl (lv_at hl 0 rfl) ?_
  refine lv_iload hx hb dL_law_1388 (lv_at hl 4 rfl) ?_
  refine lv_iconst (v := (1 : Int32)) hx hb dL_law_1390 (by decide) ?_
  refine lv_iadd hx hb dL_law_1391 ?_
  refine va_sld hx hb hX hbl hbA hS (si_in (k := 1) (by omega) hL i_k1) dL_law_1392 ?_
  refine lv_aload_n hx hb dL_law_1393 rfl (lv_at hl 3 rfl) ?_
  have ag := ag_days (x1 := (xs (nI n + 1).toNatClampNeg)) h (by omega)
  have cL := (c_L_days l hl0 D cy t xa sa sb tr na ka oa f h (xs (nI n + 1).toNatClampNeg) (ag_k ag)).ctx (r := wMo cy a0 a1 a2 a3 a4 a5 a6 mo) wO_app wO_app
  have cM := ((c_X9_days l D cy a0 a1 a2 a3 a4 a5 a6 mo (xs (nI n + 1).toNatClampNeg) h.ac).ctx (r := wO cy oa (oV f (m_X8_days z (xs (nI n + 1).toNatClampNeg)).1 (m_X8_days z (xs (nI n + 1).toNatClampNeg)).2.1) (wSp cy xa sa sb tr na ka (m_X8_days z (xs (nI n + 1).toNatClampNeg)).2.2)) wO_app2 wO_app2)
  generalize m_X8_days z (xs (nI n + 1).toNatClampNeg) = C2 at *
  generalize m_X9_days mo (xs (nI n + 1).toNatClampNeg) = M2 at *
  refine hxS (A0 := A) (As := [.ref (xa 0), .int (xs (nI n + 1).toNatClampNeg), .ref oa]) (rest := []) (W1 := wO cy oa f (wSp cy xa sa sb tr na ka z ++ wMo cy a0 a1 a2 a3 a4 a5 a6 mo)) (W2 := wO cy oa (oV f C2.1 C2.2.1) (wSp cy xa sa sb tr na ka C2.2.2 ++ wMo cy a0 a1 a2 a3 a4 a5 a6 mo)) cL hCF gL_law_L_days rfl hq_L_days ⟨Nat.le_of_ble_eq_true rfl, Nat.le_of_ble_eq_true rfl⟩ hG hF hP hD hS hA (h_wL h_Sp rfl) rfl hl.1 rfl (Nat.le_of_ble_eq_true rfl) dL_law_1394 ⟨hc, hs⟩ (fun H locs hP hD hS => ?_)
  refine lv_istore (lv' := (5, .int (mR M2.2)) :: [(0, .ref b), (1, .ref (xa 0)), (2, .ref a0), (3, .ref oa), (4, .int (nI n))]) hx hb dL_law_1397 hl (by decide) rfl (fun ls hl => ?_)
  refine lv_aload_n hx hb dL_law_1399 rfl (lv_at hl 3 rfl) ?_
  refine lv_aload_n hx hb dL_law_1400 rfl (lv_at hl 1 rfl) ?_
  refine lv_iload hx hb dL_law_1401 (lv_at hl 5 rfl) ?_
  refine lv_iconst (v := (1 : Int32)) hx hb dL_law_1403 (by decide) ?_
  refine lv_iadd hx hb dL_law_1404 ?_
  refine va_sld hx hb hX hbl hbA hS (si_in (k := 1) (by omega) hL i_k1) dL_law_1405 ?_
  refine mwV (ci := 7) (A0 := A) (As := [.int (xs (nI n + 1).toNatClampNeg)]) (rest := []) (W1 := wO cy oa (oV f C2.1 C2.2.1) (wSp cy xa sa sb tr na ka C2.2.2 ++ wMo cy a0 a1 a2 a3 a4 a5 a6 mo)) (W2 := wO cy oa (oV f C2.1 C2.2.1) (wSp cy xa sa sb tr na ka C2.2.2 ++ wMo cy a0 a1 a2 a3 a4 a5 a6 M2.2)) cM hCF gL_law_X9_days rfl hd_X9_days ⟨rfl, rfl, Nat.le_of_ble_eq_true rfl, Nat.le_of_ble_eq_true rfl⟩ hG hP hD hS hA (h_wL rfl h_Mo) rfl rfl (List.mem_cons_of_mem _ (List.mem_append_right _ (List.mem_of_getElem? g_Mo_0))) rfl hl.1 rfl (Nat.le_of_ble_eq_true rfl) dL_law_1406 ⟨hc, hs⟩ (fun H locs hP hD hS => ?_)
  refine lv_istore (lv' := (6, .int M2.1) :: (5, .int (mR M2.2)) :: [(0, .ref b), (1, .ref (xa 0)), (2, .ref a0), (3, .ref oa), (4, .int (nI n))]) hx hb dL_law_1409 hl (by decide) rfl (fun ls hl => ?_)
  refine lv_aload_n hx hb dL_law_1411 rfl (lv_at hl 4 rfl) ?_
  refine rwV (ci := 7) (As := []) (rest := []) (W1 := wO cy oa (oV f C2.1 C2.2.1) (wSp cy xa sa sb tr na ka C2.2.2 ++ wMo cy a0 a1 a2 a3 a4 a5 a6 M2.2)) ((c_X9_thrown l D cy a0 a1 a2 a3 a4 a5 a6 M2.2).ctx (r := wO cy oa (oV f C2.1 C2.2.1) (wSp cy xa sa sb tr na ka C2.2.2)) wO_app2) hCF gL_law_X9_thrown rfl hd_X9_thrown ⟨rfl, rfl, Nat.le_of_ble_eq_true rfl, Nat.le_of_ble_eq_true rfl⟩ hG hP rfl rfl (List.mem_cons_of_mem _ (List.mem_append_right _ (List.mem_of_getElem? g_Mo_0))) rfl hl.1 rfl (Nat.le_of_ble_eq_true rfl) dL_law_1412 ⟨hc, hs⟩ ?_
  refine lv_iload hx hb dL_law_1415 (lv_at hl 1 rfl) ?_
  refine lv_icmp_eq (tgt := 1422) hx hb dL_law_1417 (by decide) (fun _ => ?_) (fun q => absurd rfl q)
  refine lv_iload hx hb dL_law_1422 (lv_at hl 1 rfl) ?_
  refine lv_if_ne (tgt := 1439) hx hb dL_law_1424 (by decide) (fun _ => ?_) (fun k0 => ?_)
  · refine lv_goto (tgt := 2164) hx hb dL_law_1439 (by decide) ?_
    exact kk _ _ _ _ _ _ (kl_sub hl) ag.1 hP hD hS
  refine lv_aload_n hx hb dL_law_1427 rfl (lv_at hl 5 rfl) ?_
  refine lv_iconst (v := (0 : Int32)) hx hb dL_law_1428 (by decide) ?_
  refine va_lald hx hb hG.1 hP 0 3 rfl rfl (bd_of (by decide) (by decide)) dL_law_1429 ?_
  refine lv_iload hx hb dL_law_1430 (lv_at hl 0 rfl) ?_
  refine lv_i2l hx hb dL_law_1432 rfl ?_
  refine W.lcmp hx hb dL_law_1433 ?_
  have av := ag_v ag nz_ec k0
  refine lv_if_eq (tgt := 1439) hx hb dL_law_1434 (by decide) (fun _ => ?_) (fun q => absurd (lg_same ((oV_get av.1).trans (congrArg Int32.toInt64 av.2))) q)
  refine lv_goto (tgt := 2164) hx hb dL_law_1439 (by decide) ?_
  exact kk _ _ _ _ _ _ (kl_sub hl) ag.1 hP hD hS
set_option maxRecDepth 20000 in
theorem w_set {p : Program} {l : Launch} {e : Env} {s : State} {m : MethodId} {below : List Frame} {meth : Method} {c : Code} {b L : Nat} {xs : Nat → Int32} {D : va_G} {cy : Nat → ClassId} {t : FxA} {A : Nat → Prop} {Q : State → Prop} {xa sa sb tr na : Nat → Nat} {ka : Nat → Nat → Nat} {a0 a1 a2 a3 a4 a5 a6 oa : Nat} (C0 : LC p l s m meth c b L xs D cy t A) {n : Nat} (hn : n + 5 ≤ L) (hL : L ≤ 2560) {cells slots : Nat} (hc : cells + 1 ≤ 601024) (hs : slots + 6 ≤ 7293034) {T : Int} (hT0 : 100000 ≤ T) (hT : T ≤ 1000000) {H : Heap} {locs : List Loc} {ls : Array Slot} {z : SpT} {mo : MoT} {f : Nat → Int64}
    (hl : lv_has ls 7 [(0, .ref b), (1, .ref (xa 0)), (2, .ref a0), (3, .ref oa), (4, .int (nI n))]) (h : PR T z mo) (hP : va_P D vwCl (wO cy oa f (wSp cy xa sa sb tr na ka z ++ wMo cy a0 a1 a2 a3 a4 a5 a6 mo)) H) (hD : va_D A (wO cy oa f (wSp cy xa sa sb tr na ka z ++ wMo cy a0 a1 a2 a3 a4 a5 a6 mo))) (hS : va_S A s.heap H locs)
    (kk : ∀ (ls : Array Slot) (H : Heap) (locs : List Loc) (z : SpT) (mo : MoT) (f : Nat → Int64), lv_has ls 7 [(0, .ref b), (1, .ref (xa 0)), (2, .ref a0), (3, .ref oa), (4, .int (nI n))] → PR (T + 99) z mo → va_P D vwCl (wO cy oa f (wSp cy xa sa sb tr na ka z ++ wMo cy a0 a1 a2 a3 a4 a5 a6 mo)) H → va_D A (wO cy oa f (wSp cy xa sa sb tr na ka z ++ wMo cy a0 a1 a2 a3 a4 a5 a6 mo)) → va_S A s.heap H locs → Wx p l e room_1 s m #[Value.ref b] below meth c H locs (cells + 1) (slots + 6) Q (F0 m 2164 ls [])) : Wx p l e room_1 s m #[Value.ref b] below meth c H locs cells slots Q (F0 m 1442 ls []) := by
  obtain ⟨hx, hb, hCF, hG, hF, hX, hbl, hbA, hA, hl0, hown⟩ := C0
  refine lv_aload_n hx hb dL_law_1442 rfl (lv_at hl 1 rfl) ?_
  refine lv_aload_n hx hb dL_law_1443 rfl (lv_at hl 0 rfl) ?_
  refine lv_iload hx hb dL_law_1444 (lv_at hl 4 rfl) ?_
  refine lv_iconst (v := (1 : Int32)) hx hb dL_law_1446 (by decide) ?_
  refine lv_iadd hx hb dL_law_1447 ?_
  refine va_sld hx hb hX hbl hbA hS (si_in (k := 1) (by omega) hL i_k1) dL_law_1448 ?_
  refine lv_aload_n hx hb dL_law_1449 rfl (lv_at hl 0 rfl) ?_
  refine lv_iload hx hb dL_law_1450 (lv_at hl 4 rfl) ?_
  refine lv_iconst (v := (2 : Int32)) hx hb dL_law_1452 (by decide) ?_
  refine lv_iadd hx hb dL_law_1453 ?_
  refine va_sld hx hb hX hbl hbA hS (si_in (k := 2) (by omega) hL i_k2) dL_law_1454 ?_
  refine lv_aload_n hx hb dL_law_1455 rfl (lv_at hl 3 rfl) ?_
  have ag := ag_set (x1 := (xs (nI n + 1).toNatClampNeg)) (x2 := (xs (nI n + 2).toNatClampNeg)) h
  have cL := (c_L_set l hl0 D cy t xa sa sb tr na ka oa f h (xs (nI n + 1).toNatClampNeg) (xs (nI n + 2).toNatClampNeg) (ag_k ag)).ctx (r := wMo cy a0 a1 a2 a3 a4 a5 a6 mo) wO_app wO_app
  have cM := ((c_X9_set l D cy a0 a1 a2 a3 a4 a5 a6 mo (xs (nI n + 1).toNatClampNeg) (xs (nI n + 2).toNatClampNeg) h.ac).ctx (r := wO cy oa (oV f (m_X8_set z (xs (nI n + 1).toNatClampNeg) (xs (nI n + 2).toNatClampNeg)).1 (m_X8_set z (xs (nI n + 1).toNatClampNeg) (xs (nI n + 2).toNatClampNeg)).2.1) (wSp cy xa sa sb tr na ka (m_X8_set z (xs (nI n + 1).toNatClampNeg) (xs (nI n + 2).toNatClampNeg)).2.2)) wO_app2 wO_app2)
  generalize m_X8_set z (xs (nI n + 1).toNatClampNeg) (xs (nI n + 2).toNatClampNeg) = C2 at *
  generalize m_X9_set mo (xs (nI n + 1).toNatClampNeg) (xs (nI n + 2).toNatClampNeg) = M2 at *
  refine hxS (A0 := A) (As := [.ref (xa 0), .int (xs (nI n + 1).toNatClampNeg), .int (xs (nI n + 2).toNatClampNeg), .ref oa]) (rest := []) (W1 := wO cy oa f (wSp cy xa sa sb tr na ka z ++ wMo cy a0 a1 a2 a3 a4 a5 a6 mo)) (W2 := wO cy oa (oV f C2.1 C2.2.1) (wSp cy xa sa sb tr na ka C2.2.2 ++ wMo cy a0 a1 a2 a3 a4 a5 a6 mo)) cL hCF gL_law_L_set rfl hq_L_set ⟨Nat.le_of_ble_eq_true rfl, Nat.le_of_ble_eq_true rfl⟩ hG hF hP hD hS hA (h_wL h_Sp rfl) rfl hl.1 rfl (Nat.le_of_ble_eq_true rfl) dL_law_1456 ⟨hc, hs⟩ (fun H locs hP hD hS => ?_)
  refine lv_istore (lv' := (5, .int (mR M2.2)) :: [(0, .ref b), (1, .ref (xa 0)), (2, .ref a0), (3, .ref oa), (4, .int (nI n))]) hx hb dL_law_1459 hl (by decide) rfl (fun ls hl => ?_)
  refine lv_aload_n hx hb dL_law_1461 rfl (lv_at hl 3 rfl) ?_
  refine lv_aload_n hx hb dL_law_1462 rfl (lv_at hl 1 rfl) ?_
  refine lv_iload hx hb dL_law_1463 (lv_at hl 5 rfl) ?_
  refine lv_iconst (v := (1 : Int32)) hx hb dL_law_1465 (by decide) ?_
  refine lv_iadd hx hb dL_law_1466 ?_
  refine va_sld hx hb hX hbl hbA hS (si_in (k := 1) (by omega) hL i_k1) dL_law_1467 ?_
  refine lv_aload_n hx hb dL_law_1468 rfl (lv_at hl 1 rfl) ?_
  refine lv_iload hx hb dL_law_1469 (lv_at hl 5 rfl) ?_
  refine lv_iconst (v := (2 : Int32)) hx hb dL_law_1471 (by decide) ?_
  refine lv_iadd hx hb dL_law_1472 ?_
  refine va_sld hx hb hX hbl hbA hS (si_in (k := 2) (by omega) hL i_k2) dL_law_1473 ?_
  refine mwV (ci := 7) (A0 := A) (As := [.int (xs (nI n + 1).toNatClampNeg), .int (xs (nI n + 2).toNatClampNeg)]) (rest := []) (W1 := wO cy oa (oV f C2.1 C2.2.1) (wSp cy xa sa sb tr na ka C2.2.2 ++ wMo cy a0 a1 a2 a3 a4 a5 a6 mo)) (W2 := wO cy oa (oV f C2.1 C2.2.1) (wSp cy xa sa sb tr na ka C2.2.2 ++ wMo cy a0 a1 a2 a3 a4 a5 a6 M2.2)) cM hCF gL_law_X9_set rfl hd_X9_set ⟨rfl, rfl, Nat.le_of_ble_eq_true rfl, Nat.le_of_ble_eq_true rfl⟩ hG hP hD hS hA (h_wL rfl h_Mo) rfl rfl (List.mem_cons_of_mem _ (List.mem_append_right _ (List.mem_of_getElem? g_Mo_0))) rfl hl.1 rfl (Nat.le_of_ble_eq_true rfl) dL_law_1474 ⟨hc, hs⟩ (fun H locs hP hD hS => ?_)
  refine lv_istore (lv' := (6, .int M2.1) :: (5, .int (mR M2.2)) :: [(0, .ref b), (1, .ref (xa 0)), (2, .ref a0), (3, .ref oa), (4, .int (nI n))]) hx hb dL_law_1477 hl (by decide) rfl (fun ls hl => ?_)
  refine lv_aload_n hx hb dL_law_1479 rfl (lv_at hl 4 rfl) ?_
  refine rwV (ci := 7) (As := []) (rest := []) (W1 := wO cy oa (oV f C2.1 C2.2.1) (wSp cy xa sa sb tr na ka C2.2.2 ++ wMo cy a0 a1 a2 a3 a4 a5 a6 M2.2)) ((c_X9_thrown l D cy a0 a1 a2 a3 a4 a5 a6 M2.2).ctx (r := wO cy oa (oV f C2.1 C2.2.1) (wSp cy xa sa sb tr na ka C2.2.2)) wO_app2) hCF gL_law_X9_thrown rfl hd_X9_thrown ⟨rfl, rfl, Nat.le_of_ble_eq_true rfl, Nat.le_of_ble_eq_true rfl⟩ hG hP rfl rfl (List.mem_cons_of_mem _ (List.mem_append_right _ (List.mem_of_getElem? g_Mo_0))) rfl hl.1 rfl (Nat.le_of_ble_eq_true rfl) dL_law_1480 ⟨hc, hs⟩ ?_
  refine lv_iload hx hb dL_law_1483 (lv_at hl 1 rfl) ?_
  refine lv_icmp_eq (tgt := 1490) hx hb dL_law_1485 (by decide) (fun _ => ?_) (fun q => absurd rfl q)
  refine lv_iload hx hb dL_law_1490 (lv_at hl 1 rfl) ?_
  refine lv_if_ne (tgt := 1507) hx hb dL_law_1492 (by decide) (fun _ => ?_) (fun k0 => ?_)
  · refine lv_goto (tgt := 2164) hx hb dL_law_1507 (by decide) ?_
    exact kk _ _ _ _ _ _ (kl_sub hl) ag.1 hP hD hS
  refine lv_aload_n hx hb dL_law_1495 rfl (lv_at hl 5 rfl) ?_
  refine lv_iconst (v := (0 : Int32)) hx hb dL_law_1496 (by decide) ?_
  refine va_lald hx hb hG.1 hP 0 3 rfl rfl (bd_of (by decide) (by decide)) dL_law_1497 ?_
  refine lv_iload hx hb dL_law_1498 (lv_at hl 0 rfl) ?_
  refine lv_i2l hx hb dL_law_1500 rfl ?_
  refine W.lcmp hx hb dL_law_1501 ?_
  have av := ag_v ag nz_ec k0
  refine lv_if_eq (tgt := 1507) hx hb dL_law_1502 (by decide) (fun _ => ?_) (fun q => absurd (lg_same ((oV_get av.1).trans (congrArg Int32.toInt64 av.2))) q)
  refine lv_goto (tgt := 2164) hx hb dL_law_1507 (by decide) ?_
  exact kk _ _ _ _ _ _ (kl_sub hl) ag.1 hP hD hS
