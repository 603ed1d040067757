/-! p35: holds: the takings -/
set_option maxRecDepth 20000 in
theorem w_g2 {p : Program} {l : Launch} {e : Env} {s : State} {m : MethodId} {below : List Frame} {meth : Method} {c : Code} {D : va_G} {cy : Nat → ClassId} {t : FxA} {A : Nat → Prop} {Q : State → Prop} {xa sa sb tr na : Nat → Nat} {ka : Nat → Nat → Nat} {x : Int32} (C0 : LR p l s m meth c ([.ref (xa 0), .int x] : List Value).toArray cL_holds 28 wc_holds (some .boolean) D cy t A) {z0 z : SpT} {T : Int} {k9 md : Nat} {tk can kd h n9 : Int32} (h0 : 100000 ≤ T) (h1 : T ≤ 890000) (ti : TI T z0 h kd md z) (m12 : md < 12) (oz : OKz z) (hn9 : n9 = uN (sU (pN z))) {j : Nat} {pt : Int32} (j1 : j < uM (sU (pN z))) (j2 : (gTo (sU (pN z)) h kd) = nI j) (hpt : pt = (gPt (sU (pN z)) h kd)) {cells slots : Nat} (hc : cells + 60 ≤ 3000) (hs : slots + 360 ≤ 18000) {H : Heap} {locs : List Loc} {ls : Array Slot} (hl : lv_has ls 28 [(19, .int (nI j)), (18, .int (nI k9)), (17, .int (nI md)), (15, .int tk), (14, .int can), (13, .int kd), (12, .int h), (11, .int (1 : Int32)), (2, .int n9), (0, .ref (xa 0)), (1, .int x)]) (hP : va_P D vwCl (wSp cy xa sa sb tr na ka z) H) (hD : va_D A (wSp cy xa sa sb tr na ka z)) (hS : va_S A s.heap H locs) (kk : ∀ (ls : Array Slot) (H : Heap) (locs : List Loc), lv_has ls 28 [(18, .int (nI (k9 + 1))), (17, .int (nI (md + tkM h kd z))), (15, .int tk), (14, .int can), (13, .int kd), (12, .int h), (11, .int (1 : Int32)), (2, .int n9), (0, .ref (xa 0)), (1, .int x)] → va_P D vwCl (wSp cy xa sa sb tr na ka (tkZ h kd z)) H → va_D A (wSp cy xa sa sb tr na ka (tkZ h kd z)) → va_S A s.heap H locs → @Wx p l e ({ frames := 10, cells := 3000, slots := 18000, locals := 300 } : Room) s m ([.ref (xa 0), .int x] : List Value).toArray below meth c H locs (cells + 60) (slots + 360) Q (F0 m 548 ls [])) : @Wx p l e ({ frames := 10, cells := 3000, slots := 18000, locals := 300 } : Room) s m ([.ref (xa 0), .int x] : List Value).toArray below meth c H locs cells slots Q (F0 m 754 ls [.int pt]) := by
  have C1 := C0
  obtain ⟨hx, hb, hr, hlocks, hts, hown, hCF, hG, hF, hA, hl0⟩ := C0
  obtain ⟨m16, mN9⟩ := um16 oz.st.1
  refine lv_istore (lv' := [(21, .int pt), (19, .int (nI j)), (18, .int (nI k9)), (17, .int (nI md)), (15, .int tk), (14, .int can), (13, .int kd), (12, .int h), (11, .int (1 : Int32)), (2, .int n9), (0, .ref (xa 0)), (1, .int x)]) hx hb dL_holds_754 hl (by decide) rfl (fun ls hl => ?_)
  refine lv_iconst (v := (-1 : Int32)) hx hb dL_holds_756 (by decide) ?_
  refine lv_istore (lv' := [(22, .int (-1 : Int32)), (21, .int pt), (19, .int (nI j)), (18, .int (nI k9)), (17, .int (nI md)), (15, .int tk), (14, .int can), (13, .int kd), (12, .int h), (11, .int (1 : Int32)), (2, .int n9), (0, .ref (xa 0)), (1, .int x)]) hx hb dL_holds_757 hl (by decide) rfl (fun ls hl => ?_)
  refine lv_iconst (v := (4 : Int32)) hx hb dL_holds_759 (by decide) ?_
  refine lv_istore (lv' := [(23, .int (4 : Int32)), (22, .int (-1 : Int32)), (21, .int pt), (19, .int (nI j)), (18, .int (nI k9)), (17, .int (nI md)), (15, .int tk), (14, .int can), (13, .int kd), (12, .int h), (11, .int (1 : Int32)), (2, .int n9), (0, .ref (xa 0)), (1, .int x)]) hx hb dL_holds_760 hl (by decide) rfl (fun ls hl => ?_)
  refine lv_iconst (v := (0 : Int32)) hx hb dL_holds_762 (by decide) ?_
  refine lv_istore (lv' := [(24, .int (0 : Int32)), (23, .int (4 : Int32)), (22, .int (-1 : Int32)), (21, .int pt), (19, .int (nI j)), (18, .int (nI k9)), (17, .int (nI md)), (15, .int tk), (14, .int can), (13, .int kd), (12, .int h), (11, .int (1 : Int32)), (2, .int n9), (0, .ref (xa 0)), (1, .int x)]) hx hb dL_holds_763 hl (by decide) rfl (fun ls hl => ?_)
  have hl : lv_has ls 28 [(24, .int (nI 0)), (23, .int (4 : Int32)), (22, .int (-1 : Int32)), (21, .int pt), (19, .int (nI j)), (18, .int (nI k9)), (17, .int (nI md)), (15, .int tk), (14, .int can), (13, .int kd), (12, .int h), (11, .int (1 : Int32)), (2, .int n9), (0, .ref (xa 0)), (1, .int x)] := hl
  refine w_fr C1 oz hn9 (uM (sU (pN z))) 0 (-1) 4 (by omega) (by omega) (by omega) hl hP hD hS (fun ls H locs hl hP hD hS => ?_)
  have ef : (frL (sU (pN z)) h kd (nI j) pt (uM (sU (pN z))) 0 (-1, 4)).1 = (gFr (sU (pN z)) h kd) := by unfold gFr; rw [j2, hpt]
  rw [ef] at hl
  have hl : lv_has ls 28 [(22, .int (gFr (sU (pN z)) h kd)), (21, .int pt), (19, .int (nI j)), (18, .int (nI k9)), (17, .int (nI md)), (15, .int tk), (14, .int can), (13, .int kd), (12, .int h), (11, .int (1 : Int32)), (2, .int n9), (0, .ref (xa 0)), (1, .int x)] := lv_sub hl [1, 2, 3, 4, 5, 6, 7, 8, 9, 10, 11, 12, 13] rfl
  have ej := nI_n (i := j) (by omega)
  refine lv_iload hx hb dL_holds_908 (lv_at hl 2 rfl) ?_
  refine lv_if_lt (tgt := 917) hx hb dL_holds_910 (by decide) (fun q => absurd q (by rw [i32_lt, i32_0, ej.1]; omega)) (fun _ => ?_)
  refine lv_iconst (v := (1 : Int32)) hx hb dL_holds_913 (by decide) ?_
  refine lv_goto (tgt := 918) hx hb dL_holds_914 (by decide) ?_
  refine lv_istore (lv' := [(11, .int (1 : Int32)), (22, .int (gFr (sU (pN z)) h kd)), (21, .int pt), (19, .int (nI j)), (18, .int (nI k9)), (17, .int (nI md)), (15, .int tk), (14, .int can), (13, .int kd), (12, .int h), (2, .int n9), (0, .ref (xa 0)), (1, .int x)]) hx hb dL_holds_918 hl (by decide) rfl (fun ls hl => ?_)
  refine lv_iload hx hb dL_holds_920 (lv_at hl 1 rfl) ?_
  by_cases cf : (gFr (sU (pN z)) h kd) = -1
  · refine lv_if_lt (tgt := 955) hx hb dL_holds_922 (by decide) (fun _ => ?_) (fun q => absurd (show (gFr (sU (pN z)) h kd) < 0 by rw [cf]; decide) q)
    refine lv_iinc (v := ((nI k9) + (1 : Int32))) (lv' := [(18, .int ((nI k9) + (1 : Int32))), (11, .int (1 : Int32)), (22, .int (gFr (sU (pN z)) h kd)), (21, .int pt), (19, .int (nI j)), (17, .int (nI md)), (15, .int tk), (14, .int can), (13, .int kd), (12, .int h), (2, .int n9), (0, .ref (xa 0)), (1, .int x)]) hx hb dL_holds_955 hl (k := 4) rfl rfl (by decide) rfl (fun ls hl => ?_)
    refine lv_goto (tgt := 548) hx hb dL_holds_958 (by decide) ?_
    have hl : lv_has ls 28 [(18, .int (nI k9 + (1 : Int32))), (17, .int (nI md)), (15, .int tk), (14, .int can), (13, .int kd), (12, .int h), (11, .int (1 : Int32)), (2, .int n9), (0, .ref (xa 0)), (1, .int x)] := lv_sub hl [0, 5, 6, 7, 8, 9, 1, 10, 11, 12] rfl
    have e1 : tkZ h kd z = z := by unfold tkZ; rw [if_pos cf]
    have e2 : tkM h kd z = 0 := by unfold tkM; rw [if_pos cf]
    rw [nI_1] at hl
    refine W.widen (k := cells + 60) (n := slots + 360) (by omega) (by omega) ?_
    rw [e1, e2] at kk
    exact kk _ _ _ hl hP hD hS
  · have st := ti.step m12 h0 (by omega) cf
    have hq := c_L_call_13 l hl0 D cy t xa sa sb tr na ka oz (gFr (sU (pN z)) h kd) (gTo (sU (pN z)) h kd) (gPt (sU (pN z)) h kd)
    have e1 : tkZ h kd z = (callP z 13 (gFr (sU (pN z)) h kd) (gTo (sU (pN z)) h kd) (gPt (sU (pN z)) h kd)).2.2 := by unfold tkZ; rw [if_neg cf]
    have e2 : tkM h kd z = 1 := by unfold tkM; rw [if_neg cf]
    rw [e1, e2] at kk
    rw [j2, ← hpt] at st hq kk
    have gp : ¬ (gFr (sU (pN z)) h kd) < 0 := by
      rcases fr_fact (un := (sU (pN z))) (h := h) (k := kd) with q | ⟨i, i1, i2, -⟩
      · exact absurd q cf
      · rw [i2, i32_lt, i32_0, (nI_n (i := i) (by omega)).1]; omega
    refine lv_if_lt (tgt := 955) hx hb dL_holds_922 (by decide) (fun q => absurd q gp) (fun _ => ?_)
    refine lv_iload hx hb dL_holds_925 (lv_at hl 0 rfl) ?_
    refine lv_if_eq (tgt := 955) hx hb dL_holds_927 (by decide) (fun q => absurd q (by decide)) (fun _ => ?_)
    refine lv_aload_n hx hb dL_holds_930 rfl (lv_at hl 11 rfl) ?_
    refine lv_bipush (v := (13 : Int32)) hx hb dL_holds_931 (by decide) ?_
    refine lv_iload hx hb dL_holds_933 (lv_at hl 1 rfl) ?_
    refine lv_iload hx hb dL_holds_935 (lv_at hl 3 rfl) ?_
    refine lv_iload hx hb dL_holds_937 (lv_at hl 2 rfl) ?_
    refine hwS (A0 := A) (As := [.ref (xa 0), .int (13 : Int32), .int (gFr (sU (pN z)) h kd), .int (nI j), .int pt]) (rest := []) (W1 := (wSp cy xa sa sb tr na ka z)) (W2 := (wSp cy xa sa sb tr na ka (callP z 13 (gFr (sU (pN z)) h kd) (nI j) pt).2.2)) hq hCF gw_L_call.more rfl hq_L_call ⟨Nat.le_of_ble_eq_true rfl, Nat.le_of_ble_eq_true rfl⟩ hG hF hP hD hS hA h_Sp rfl hl.1 rfl (Nat.le_of_ble_eq_true rfl) dL_holds_939 ⟨by show _ ≤ 3000; omega, by show _ ≤ 18000; omega⟩ (fun H locs hP hD hS => ?_)
    refine lv_if_lt (tgt := 949) hx hb dL_holds_942 (by decide) (fun q => absurd q (by rw [i32_lt, i32_0]; have := st.1; omega)) (fun _ => ?_)
    refine lv_iconst (v := (1 : Int32)) hx hb dL_holds_945 (by decide) ?_
    refine lv_goto (tgt := 950) hx hb dL_holds_946 (by decide) ?_
    refine lv_istore (lv' := [(11, .int (1 : Int32)), (22, .int (gFr (sU (pN z)) h kd)), (21, .int pt), (19, .int (nI j)), (18, .int (nI k9)), (17, .int (nI md)), (15, .int tk), (14, .int can), (13, .int kd), (12, .int h), (2, .int n9), (0, .ref (xa 0)), (1, .int x)]) hx hb dL_holds_950 hl (by decide) rfl (fun ls hl => ?_)
    refine lv_iinc (v := ((nI md) + (1 : Int32))) (lv' := [(17, .int ((nI md) + (1 : Int32))), (11, .int (1 : Int32)), (22, .int (gFr (sU (pN z)) h kd)), (21, .int pt), (19, .int (nI j)), (18, .int (nI k9)), (15, .int tk), (14, .int can), (13, .int kd), (12, .int h), (2, .int n9), (0, .ref (xa 0)), (1, .int x)]) hx hb dL_holds_952 hl (k := 5) rfl rfl (by decide) rfl (fun ls hl => ?_)
    refine lv_iinc (v := ((nI k9) + (1 : Int32))) (lv' := [(18, .int ((nI k9) + (1 : Int32))), (17, .int ((nI md) + (1 : Int32))), (11, .int (1 : Int32)), (22, .int (gFr (sU (pN z)) h kd)), (21, .int pt), (19, .int (nI j)), (15, .int tk), (14, .int can), (13, .int kd), (12, .int h), (2, .int n9), (0, .ref (xa 0)), (1, .int x)]) hx hb dL_holds_955 hl (k := 5) rfl rfl (by decide) rfl (fun ls hl => ?_)
    refine lv_goto (tgt := 548) hx hb dL_holds_958 (by decide) ?_
    have hl : lv_has ls 28 [(18, .int (nI k9 + (1 : Int32))), (17, .int (nI md + (1 : Int32))), (15, .int tk), (14, .int can), (13, .int kd), (12, .int h), (11, .int (1 : Int32)), (2, .int n9), (0, .ref (xa 0)), (1, .int x)] := lv_sub hl [0, 1, 6, 7, 8, 9, 2, 10, 11, 12] rfl
    rw [nI_1, nI_1] at hl
    refine W.widen (k := cells + 60) (n := slots + 360) (by omega) (by omega) ?_
    exact kk _ _ _ hl hP hD hS
set_option maxRecDepth 20000 in
theorem w_gs {p : Program} {l : Launch} {e : Env} {s : State} {m : MethodId} {below : List Frame} {meth : Method} {c : Code} {D : va_G} {cy : Nat → ClassId} {t : FxA} {A : Nat → Prop} {Q : State → Prop} {xa sa sb tr na : Nat → Nat} {ka : Nat → Nat → Nat} {x : Int32} (C0 : LR p l s m meth c ([.ref (xa 0), .int x] : List Value).toArray cL_holds 28 wc_holds (some .boolean) D cy t A) {z0 z : SpT} {T : Int} {k9 md : Nat} {tk can kd h n9 : Int32} (h0 : 100000 ≤ T) (h1 : T ≤ 890000) (ti : TI T z0 h kd md z) (m12 : md < 12) (oz : OKz z) (hn9 : n9 = uN (sU (pN z))) (k12 : k9 < 12) (tp : 0 < tk.toInt ∧ tk.toInt ≤ 12) (hlt : nI md < tk) {cells slots : Nat} (hc : cells + 120 ≤ 3000) (hs : slots + 720 ≤ 18000) {H : Heap} {locs : List Loc} {ls : Array Slot} (hl : lv_has ls 28 [(18, .int (nI k9)), (17, .int (nI md)), (15, .int tk), (14, .int can), (13, .int kd), (12, .int h), (11, .int (1 : Int32)), (2, .int n9), (0, .ref (xa 0)), (1, .int x)]) (hP : va_P D vwCl (wSp cy xa sa sb tr na ka z) H) (hD : va_D A (wSp cy xa sa sb tr na ka z)) (hS : va_S A s.heap H locs) (kk : ∀ (ls : Array Slot) (H : Heap) (locs : List Loc), lv_has ls 28 [(18, .int (nI (k9 + 1))), (17, .int (nI (md + tkM h kd z))), (15, .int tk), (14, .int can), (13, .int kd), (12, .int h), (11, .int (1 : Int32)), (2, .int n9), (0, .ref (xa 0)), (1, .int x)] → va_P D vwCl (wSp cy xa sa sb tr na ka (tkZ h kd z)) H → va_D A (wSp cy xa sa sb tr na ka (tkZ h kd z)) → va_S A s.heap H locs → @Wx p l e ({ frames := 10, cells := 3000, slots := 18000, locals := 300 } : Room) s m ([.ref (xa 0), .int x] : List Value).toArray below meth c H locs (cells + 120) (slots + 720) Q (F0 m 548 ls [])) : @Wx p l e ({ frames := 10, cells := 3000, slots := 18000, locals := 300 } : Room) s m ([.ref (xa 0), .int x] : List Value).toArray below meth c H locs cells slots Q (F0 m 548 ls []) := by
  have C1 := C0
  obtain ⟨hx, hb, hr, hlocks, hts, hown, hCF, hG, hF, hA, hl0⟩ := C0
  obtain ⟨m16, mN9⟩ := um16 oz.st.1
  refine lv_iload hx hb dL_holds_548 (lv_at hl 0 rfl) ?_
  refine lv_bipush (v := (12 : Int32)) hx hb dL_holds_550 (by decide) ?_
  refine lv_icmp_ge (tgt := 961) hx hb dL_holds_552 (by decide) (fun q => absurd q (by rw [i32_le, (nI_n (i := k9) (by omega)).1, show (12 : Int32).toInt = 12 by decide]; omega)) (fun _ => ?_)
  refine lv_iload hx hb dL_holds_555 (lv_at hl 2 rfl) ?_
  refine lv_if_le (tgt := 961) hx hb dL_holds_557 (by decide) (fun q => absurd q (by rw [i32_le, i32_0]; omega)) (fun _ => ?_)
  refine lv_iload hx hb dL_holds_560 (lv_at hl 2 rfl) ?_
  refine lv_bipush (v := (12 : Int32)) hx hb dL_holds_562 (by decide) ?_
  refine lv_icmp_gt (tgt := 961) hx hb dL_holds_564 (by decide) (fun q => absurd q (by rw [i32_lt, show (12 : Int32).toInt = 12 by decide]; omega)) (fun _ => ?_)
  refine lv_iload hx hb dL_holds_567 (lv_at hl 1 rfl) ?_
  refine lv_iload hx hb dL_holds_569 (lv_at hl 2 rfl) ?_
  refine lv_icmp_ge (tgt := 961) hx hb dL_holds_571 (by decide) (fun q => absurd q (by rw [i32_le]; rw [i32_lt] at hlt; omega)) (fun _ => ?_)
  refine lv_iload hx hb dL_holds_574 (lv_at hl 6 rfl) ?_
  refine lv_if_eq (tgt := 961) hx hb dL_holds_576 (by decide) (fun q => absurd q (by decide)) (fun _ => ?_)
  refine lv_iconst (v := (-1 : Int32)) hx hb dL_holds_579 (by decide) ?_
  refine lv_istore (lv' := [(19, .int (-1 : Int32)), (18, .int (nI k9)), (17, .int (nI md)), (15, .int tk), (14, .int can), (13, .int kd), (12, .int h), (11, .int (1 : Int32)), (2, .int n9), (0, .ref (xa 0)), (1, .int x)]) hx hb dL_holds_580 hl (by decide) rfl (fun ls hl => ?_)
  refine lv_iconst (v := (4 : Int32)) hx hb dL_holds_582 (by decide) ?_
  refine lv_istore (lv' := [(20, .int (4 : Int32)), (19, .int (-1 : Int32)), (18, .int (nI k9)), (17, .int (nI md)), (15, .int tk), (14, .int can), (13, .int kd), (12, .int h), (11, .int (1 : Int32)), (2, .int n9), (0, .ref (xa 0)), (1, .int x)]) hx hb dL_holds_583 hl (by decide) rfl (fun ls hl => ?_)
  refine lv_iconst (v := (0 : Int32)) hx hb dL_holds_585 (by decide) ?_
  refine lv_istore (lv' := [(21, .int (0 : Int32)), (20, .int (4 : Int32)), (19, .int (-1 : Int32)), (18, .int (nI k9)), (17, .int (nI md)), (15, .int tk), (14, .int can), (13, .int kd), (12, .int h), (11, .int (1 : Int32)), (2, .int n9), (0, .ref (xa 0)), (1, .int x)]) hx hb dL_holds_586 hl (by decide) rfl (fun ls hl => ?_)
  have hl : lv_has ls 28 [(21, .int (nI 0)), (20, .int (4 : Int32)), (19, .int (-1 : Int32)), (18, .int (nI k9)), (17, .int (nI md)), (15, .int tk), (14, .int can), (13, .int kd), (12, .int h), (11, .int (1 : Int32)), (2, .int n9), (0, .ref (xa 0)), (1, .int x)] := hl
  refine w_to C1 oz hn9 (uM (sU (pN z))) 0 (-1) 4 (by omega) (by omega) (by omega) hl hP hD hS (fun ls H locs hl hP hD hS => ?_)
  obtain ⟨j, j1, j2, j3, j4⟩ := to_fact (h := h) (k := kd) (okz_7 oz) ti.2.2.2
  have et : ((toL (sU (pN z)) h kd (uM (sU (pN z))) 0 (-1, 4)).1) = nI j := j2
  rw [et] at hl
  have hl : lv_has ls 28 [(19, .int (nI j)), (18, .int (nI k9)), (17, .int (nI md)), (15, .int tk), (14, .int can), (13, .int kd), (12, .int h), (11, .int (1 : Int32)), (2, .int n9), (0, .ref (xa 0)), (1, .int x)] := lv_sub hl [1, 2, 3, 4, 5, 6, 7, 8, 9, 10, 11] rfl
  have ej := nI_n (i := j) (by omega)
  have nn : ¬ nI j < 0 := by rw [i32_lt, i32_0, ej.1]; omega
  refine lv_iload hx hb dL_holds_708 (lv_at hl 0 rfl) ?_
  refine lv_if_ge (tgt := 717) hx hb dL_holds_710 (by decide) (fun _ => ?_) (fun q => absurd (show (0 : Int32) ≤ nI j by rw [i32_le, i32_0, ej.1]; omega) q)
  refine lv_aload_n hx hb dL_holds_717 rfl (lv_at hl 9 rfl) ?_
  refine lv_iconst (v := (3 : Int32)) hx hb dL_holds_718 (by decide) ?_
  refine lv_iload hx hb dL_holds_719 (lv_at hl 0 rfl) ?_
  refine lv_iconst (v := (3 : Int32)) hx hb dL_holds_721 (by decide) ?_
  refine lv_iconst (v := (0 : Int32)) hx hb dL_holds_722 (by decide) ?_
  refine hwS (A0 := A) (As := [.ref (xa 0), .int (3 : Int32), .int (nI j), .int (3 : Int32), .int (0 : Int32)]) (rest := []) (W1 := (wSp cy xa sa sb tr na ka z)) (W2 := (wSp cy xa sa sb tr na ka z)) (cu_3 l hl0 D cy t xa sa sb tr na ka oz (i := j) j1) hCF gw_L_call.more rfl hq_L_call ⟨Nat.le_of_ble_eq_true rfl, Nat.le_of_ble_eq_true rfl⟩ hG hF hP hD hS hA rfl rfl hl.1 rfl (Nat.le_of_ble_eq_true rfl) dL_holds_723 ⟨by show _ ≤ 3000; omega, by show _ ≤ 18000; omega⟩ (fun H locs hP hD hS => ?_)
  refine lv_iconst (v := (1 : Int32)) hx hb dL_holds_726 (by decide) ?_
  refine lv_iand hx hb dL_holds_727 ?_
  refine lv_if_ne (tgt := 735) hx hb dL_holds_728 (by decide) (fun k1 => ?_) (fun k1 => ?_)
  · refine lv_aload_n hx hb dL_holds_735 rfl (lv_at hl 9 rfl) ?_
    refine lv_iconst (v := (3 : Int32)) hx hb dL_holds_736 (by decide) ?_
    refine lv_iload hx hb dL_holds_737 (lv_at hl 0 rfl) ?_
    refine lv_iconst (v := (3 : Int32)) hx hb dL_holds_739 (by decide) ?_
    refine lv_iconst (v := (0 : Int32)) hx hb dL_holds_740 (by decide) ?_
    refine hwS (A0 := A) (As := [.ref (xa 0), .int (3 : Int32), .int (nI j), .int (3 : Int32), .int (0 : Int32)]) (rest := []) (W1 := (wSp cy xa sa sb tr na ka z)) (W2 := (wSp cy xa sa sb tr na ka z)) (cu_3 l hl0 D cy t xa sa sb tr na ka oz (i := j) j1) hCF gw_L_call.more rfl hq_L_call ⟨Nat.le_of_ble_eq_true rfl, Nat.le_of_ble_eq_true rfl⟩ hG hF hP hD hS hA rfl rfl hl.1 rfl (Nat.le_of_ble_eq_true rfl) dL_holds_741 ⟨by show _ ≤ 3000; omega, by show _ ≤ 18000; omega⟩ (fun H locs hP hD hS => ?_)
    refine lv_iconst (v := (2 : Int32)) hx hb dL_holds_744 (by decide) ?_
    refine lv_iand hx hb dL_holds_745 ?_
    refine lv_if_ne (tgt := 753) hx hb dL_holds_746 (by decide) (fun k2 => ?_) (fun k2 => ?_)
    · refine lv_iconst (v := (2 : Int32)) hx hb dL_holds_753 (by decide) ?_
      have ep : (2 : Int32) = (gPt (sU (pN z)) h kd) := by unfold gPt ptO; rw [j2, if_neg nn, ej.2, if_neg k1, if_neg k2]
      refine w_g2 C1 h0 h1 ti m12 oz hn9 j1 j2 ep (by omega) (by omega) hl hP hD hS (fun ls H locs hl hP hD hS => ?_)
      refine W.widen (k := cells + 120) (n := slots + 720) (by omega) (by omega) ?_
      exact kk _ _ _ hl hP hD hS
    · refine lv_iconst (v := (1 : Int32)) hx hb dL_holds_749 (by decide) ?_
      refine lv_goto (tgt := 754) hx hb dL_holds_750 (by decide) ?_
      have ep : (1 : Int32) = (gPt (sU (pN z)) h kd) := by unfold gPt ptO; rw [j2, if_neg nn, ej.2, if_neg k1, if_pos k2]
      refine w_g2 C1 h0 h1 ti m12 oz hn9 j1 j2 ep (by omega) (by omega) hl hP hD hS (fun ls H locs hl hP hD hS => ?_)
      refine W.widen (k := cells + 120) (n := slots + 720) (by omega) (by omega) ?_
      exact kk _ _ _ hl hP hD hS
  · refine lv_iconst (v := (0 : Int32)) hx hb dL_holds_731 (by decide) ?_
    refine lv_goto (tgt := 754) hx hb dL_holds_732 (by decide) ?_
    have ep : (0 : Int32) = (gPt (sU (pN z)) h kd) := by unfold gPt ptO; rw [j2, if_neg nn, ej.2, if_pos k1]
    refine w_g2 C1 h0 h1 ti m12 oz hn9 j1 j2 ep (by omega) (by omega) hl hP hD hS (fun ls H locs hl hP hD hS => ?_)
    refine W.widen (k := cells + 120) (n := slots + 720) (by omega) (by omega) ?_
    exact kk _ _ _ hl hP hD hS
theorem TI.next {T : Int} {z0 z : SpT} {h k : Int32} {md : Nat} (i : TI T z0 h k md z) (m12 : md < 12) (h0 : 100000 ≤ T) (h1 : T ≤ 890000) : TI T z0 h k (md + tkM h k z) (tkZ h k z) := by
  by_cases cf : gFr (sU (pN z)) h k = -1
  · rw [show tkM h k z = 0 by unfold tkM; rw [if_pos cf], show tkZ h k z = z by unfold tkZ; rw [if_pos cf]]
    exact i
  · rw [show tkM h k z = 1 by unfold tkM; rw [if_neg cf], show tkZ h k z = _ by unfold tkZ; rw [if_neg cf]]
    exact (i.step m12 h0 (by omega) cf).2
theorem tkM_1 {h k : Int32} {z : SpT} : tkM h k z ≤ 1 := by
  unfold tkM
  split <;> omega
set_option maxRecDepth 20000 in
theorem w_gl {p : Program} {l : Launch} {e : Env} {s : State} {m : MethodId} {below : List Frame} {meth : Method} {c : Code} {D : va_G} {cy : Nat → ClassId} {t : FxA} {A : Nat → Prop} {Q : State → Prop} {xa sa sb tr na : Nat → Nat} {ka : Nat → Nat → Nat} {x : Int32} (C0 : LR p l s m meth c ([.ref (xa 0), .int x] : List Value).toArray cL_holds 28 wc_holds (some .boolean) D cy t A) {z0 : SpT} {T : Int} {tk can kd h n9 : Int32} (h0 : 100000 ≤ T) (h1 : T ≤ 890000) (tp : 0 < tk.toInt ∧ tk.toInt ≤ 12) (hn9 : n9 = uN (sU (pN z0))) : ∀ (j k9 md : Nat) (z : SpT), k9 + j = 12 → md ≤ k9 → TI T z0 h kd md z → ∀ {cells slots : Nat} (hc : cells + 120 * (j + 1) ≤ 3000) (hs : slots + 720 * (j + 1) ≤ 18000) {H : Heap} {locs : List Loc} {ls : Array Slot} (hl : lv_has ls 28 [(18, .int (nI k9)), (17, .int (nI md)), (15, .int tk), (14, .int can), (13, .int kd), (12, .int h), (11, .int (1 : Int32)), (2, .int n9), (0, .ref (xa 0)), (1, .int x)]) (hP : va_P D vwCl (wSp cy xa sa sb tr na ka z) H) (hD : va_D A (wSp cy xa sa sb tr na ka z)) (hS : va_S A s.heap H locs) (kk : ∀ (ls : Array Slot) (H : Heap) (locs : List Loc), TI T z0 h kd (tkL h kd tk j z md).2 (tkL h kd tk j z md).1 → lv_has ls 28 [(17, .int (nI (tkL h kd tk j z md).2)), (15, .int tk), (14, .int can), (13, .int kd), (12, .int h), (11, .int (1 : Int32)), (2, .int n9), (0, .ref (xa 0)), (1, .int x)] → va_P D vwCl (wSp cy xa sa sb tr na ka (tkL h kd tk j z md).1) H → va_D A (wSp cy xa sa sb tr na ka (tkL h kd tk j z md).1) → va_S A s.heap H locs → @Wx p l e ({ frames := 10, cells := 3000, slots := 18000, locals := 300 } : Room) s m ([.ref (xa 0), .int x] : List Value).toArray below meth c H locs (cells + 120 * (j + 1)) (slots + 720 * (j + 1)) Q (F0 m 961 ls [])), @Wx p l e ({ frames := 10, cells := 3000, slots := 18000, locals := 300 } : Room) s m ([.ref (xa 0), .int x] : List Value).toArray below meth c H locs cells slots Q (F0 m 548 ls []) := by
  have C1 := C0
  obtain ⟨hx, hb, hr, hlocks, hts, hown, hCF, hG, hF, hA, hl0⟩ := C0
  intro j
  induction j with
  | zero =>
    intro k9 md z hk hm ti cells slots hc hs H locs ls hl hP hD hS kk
    refine lv_iload hx hb dL_holds_548 (lv_at hl 0 rfl) ?_
    refine lv_bipush (v := (12 : Int32)) hx hb dL_holds_550 (by decide) ?_
    refine lv_icmp_ge (tgt := 961) hx hb dL_holds_552 (by decide) (fun _ => ?_) (fun q => absurd (by rw [i32_le, (nI_n (i := k9) (by omega)).1, show (12 : Int32).toInt = 12 by decide]; omega) q)
    have hl : lv_has ls 28 [(17, .int (nI md)), (15, .int tk), (14, .int can), (13, .int kd), (12, .int h), (11, .int (1 : Int32)), (2, .int n9), (0, .ref (xa 0)), (1, .int x)] := lv_sub hl [1, 2, 3, 4, 5, 6, 7, 8, 9] rfl
    refine W.widen (k := cells + 120 * (0 + 1)) (n := slots + 720 * (0 + 1)) (by omega) (by omega) ?_
    exact kk _ _ _ ti hl hP hD hS
  | succ j ih =>
    intro k9 md z hk hm ti cells slots hc hs H locs ls hl hP hD hS kk
    have oz : OKz z := ti.1.oz (by omega) (by omega)
    have hn8 : n9 = uN (sU (pN z)) := hn9.trans ti.2.2.1.symm
    by_cases hlt : nI md < tk
    · have ek : tkL h kd tk (j + 1) z md = tkL h kd tk j (tkZ h kd z) (md + tkM h kd z) := by rw [tkL, if_pos hlt]
      rw [ek] at kk
      refine w_gs C1 h0 h1 ti (by omega) oz hn8 (by omega) tp hlt (by omega) (by omega) hl hP hD hS (fun ls H locs hl hP hD hS => ?_)
      refine ih (k9 + 1) _ _ (by omega) (by have := tkM_1 (h := h) (k := kd) (z := z); omega) (ti.next (by omega) h0 h1) (by omega) (by omega) hl hP hD hS (fun ls H locs ti hl hP hD hS => ?_)
      refine W.widen (k := cells + 120 * (j + 1 + 1)) (n := slots + 720 * (j + 1 + 1)) (by omega) (by omega) ?_
      exact kk _ _ _ ti hl hP hD hS
    · have ek : tkL h kd tk (j + 1) z md = (z, md) := by rw [tkL, if_neg hlt]
      rw [ek] at kk
      refine lv_iload hx hb dL_holds_548 (lv_at hl 0 rfl) ?_
      refine lv_bipush (v := (12 : Int32)) hx hb dL_holds_550 (by decide) ?_
      refine lv_icmp_ge (tgt := 961) hx hb dL_holds_552 (by decide) (fun q => absurd q (by rw [i32_le, (nI_n (i := k9) (by omega)).1, show (12 : Int32).toInt = 12 by decide]; omega)) (fun _ => ?_)
      refine lv_iload hx hb dL_holds_555 (lv_at hl 2 rfl) ?_
      refine lv_if_le (tgt := 961) hx hb dL_holds_557 (by decide) (fun q => absurd q (by rw [i32_le, i32_0]; omega)) (fun _ => ?_)
      refine lv_iload hx hb dL_holds_560 (lv_at hl 2 rfl) ?_
      refine lv_bipush (v := (12 : Int32)) hx hb dL_holds_562 (by decide) ?_
      refine lv_icmp_gt (tgt := 961) hx hb dL_holds_564 (by decide) (fun q => absurd q (by rw [i32_lt, show (12 : Int32).toInt = 12 by decide]; omega)) (fun _ => ?_)
      refine lv_iload hx hb dL_holds_567 (lv_at hl 1 rfl) ?_
      refine lv_iload hx hb dL_holds_569 (lv_at hl 2 rfl) ?_
      refine lv_icmp_ge (tgt := 961) hx hb dL_holds_571 (by decide) (fun _ => ?_) (fun q => absurd (by rw [i32_le]; rw [i32_lt] at hlt; omega) q)
      have hl : lv_has ls 28 [(17, .int (nI md)), (15, .int tk), (14, .int can), (13, .int kd), (12, .int h), (11, .int (1 : Int32)), (2, .int n9), (0, .ref (xa 0)), (1, .int x)] := lv_sub hl [1, 2, 3, 4, 5, 6, 7, 8, 9] rfl
      refine W.widen (k := cells + 120 * (j + 1 + 1)) (n := slots + 720 * (j + 1 + 1)) (by omega) (by omega) ?_
      exact kk _ _ _ ti hl hP hD hS
set_option maxRecDepth 20000 in
theorem w_gn {p : Program} {l : Launch} {e : Env} {s : State} {m : MethodId} {below : List Frame} {meth : Method} {c : Code} {D : va_G} {cy : Nat → ClassId} {t : FxA} {A : Nat → Prop} {Q : State → Prop} {xa sa sb tr na : Nat → Nat} {ka : Nat → Nat → Nat} {x : Int32} (C0 : LR p l s m meth c ([.ref (xa 0), .int x] : List Value).toArray cL_holds 28 wc_holds (some .boolean) D cy t A) {z : SpT} {tk can kd h n9 : Int32} (tn : ¬ (0 < tk.toInt ∧ tk.toInt ≤ 12)) {cells slots : Nat} (hc : cells + 0 ≤ 3000) (hs : slots + 0 ≤ 18000) {H : Heap} {locs : List Loc} {ls : Array Slot} (hl : lv_has ls 28 [(18, .int (0 : Int32)), (17, .int (0 : Int32)), (15, .int tk), (14, .int can), (13, .int kd), (12, .int h), (11, .int (1 : Int32)), (2, .int n9), (0, .ref (xa 0)), (1, .int x)]) (hP : va_P D vwCl (wSp cy xa sa sb tr na ka z) H) (hD : va_D A (wSp cy xa sa sb tr na ka z)) (hS : va_S A s.heap H locs) (kk : ∀ (ls : Array Slot) (H : Heap) (locs : List Loc), lv_has ls 28 [(17, .int (0 : Int32)), (15, .int tk), (14, .int can), (13, .int kd), (12, .int h), (11, .int (1 : Int32)), (2, .int n9), (0, .ref (xa 0)), (1, .int x)] → va_P D vwCl (wSp cy xa sa sb tr na ka z) H → va_D A (wSp cy xa sa sb tr na ka z) → va_S A s.heap H locs → @Wx p l e ({ frames := 10, cells := 3000, slots := 18000, locals := 300 } : Room) s m ([.ref (xa 0), .int x] : List Value).toArray below meth c H locs (cells + 0) (slots + 0) Q (F0 m 961 ls [])) : @Wx p l e ({ frames := 10, cells := 3000, slots := 18000, locals := 300 } : Room) s m ([.ref (xa 0), .int x] : List Value).toArray below meth c H locs cells slots Q (F0 m 548 ls []) := by
  obtain ⟨hx, hb, hr, hlocks, hts, hown, hCF, hG, hF, hA, hl0⟩ := C0
  refine lv_iload hx hb dL_holds_548 (lv_at hl 0 rfl) ?_
  refine lv_bipush (v := (12 : Int32)) hx hb dL_holds_550 (by decide) ?_
  refine lv_icmp_ge (tgt := 961) hx hb dL_holds_552 (by decide) (fun q => absurd q (by decide)) (fun _ => ?_)
  refine lv_iload hx hb dL_holds_555 (lv_at hl 2 rfl) ?_
  refine lv_if_le (tgt := 961) hx hb dL_holds_557 (by decide) (fun k1 => ?_) (fun k1 => ?_)
  · have hl : lv_has ls 28 [(17, .int (0 : Int32)), (15, .int tk), (14, .int can), (13, .int kd), (12, .int h), (11, .int (1 : Int32)), (2, .int n9), (0, .ref (xa 0)), (1, .int x)] := lv_sub hl [1, 2, 3, 4, 5, 6, 7, 8, 9] rfl
    refine W.widen (k := cells + 0) (n := slots + 0) (by omega) (by omega) ?_
    exact kk _ _ _ hl hP hD hS
  · refine lv_iload hx hb dL_holds_560 (lv_at hl 2 rfl) ?_
    refine lv_bipush (v := (12 : Int32)) hx hb dL_holds_562 (by decide) ?_
    refine lv_icmp_gt (tgt := 961) hx hb dL_holds_564 (by decide) (fun _ => ?_) (fun q => absurd (show (12 : Int32) < tk by rw [i32_lt, show (12 : Int32).toInt = 12 by decide]; rw [i32_le, i32_0] at k1; omega) q)
    have hl : lv_has ls 28 [(17, .int (0 : Int32)), (15, .int tk), (14, .int can), (13, .int kd), (12, .int h), (11, .int (1 : Int32)), (2, .int n9), (0, .ref (xa 0)), (1, .int x)] := lv_sub hl [1, 2, 3, 4, 5, 6, 7, 8, 9] rfl
    refine W.widen (k := cells + 0) (n := slots + 0) (by omega) (by omega) ?_
    exact kk _ _ _ hl hP hD hS
