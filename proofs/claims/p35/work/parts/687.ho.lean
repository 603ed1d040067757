/-! p35: holds: taken back; the cheapest -/
set_option maxRecDepth 20000 in
theorem w_ul {p : Program} {l : Launch} {e : Env} {s : State} {m : MethodId} {below : List Frame} {meth : Method} {c : Code} {D : va_G} {cy : Nat → ClassId} {t : FxA} {A : Nat → Prop} {Q : State → Prop} {xa sa sb tr na : Nat → Nat} {ka : Nat → Nat → Nat} {x : Int32} (C0 : LR p l s m meth c ([.ref (xa 0), .int x] : List Value).toArray cL_holds 28 wc_holds (some .boolean) D cy t A) {st0 : StT} {T : Int} {md : Nat} {tk can kd h n9 : Int32} (h0 : 100000 ≤ T) (h1 : T ≤ 990000) (m12 : md ≤ 12) : ∀ (j i : Nat) (z : SpT), i + j = md → TQ st0 j z → OK2 (T + 99 * i) z → ∀ {cells slots : Nat} (hc : cells + 1 * (j + 1) ≤ 3000) (hs : slots + 6 * (j + 1) ≤ 18000) {H : Heap} {locs : List Loc} {ls : Array Slot} (hl : lv_has ls 28 [(18, .int (nI i)), (17, .int (nI md)), (15, .int tk), (14, .int can), (13, .int kd), (12, .int h), (11, .int (1 : Int32)), (2, .int n9), (0, .ref (xa 0)), (1, .int x)]) (hP : va_P D vwCl (wSp cy xa sa sb tr na ka z) H) (hD : va_D A (wSp cy xa sa sb tr na ka z)) (hS : va_S A s.heap H locs) (kk : ∀ (ls : Array Slot) (H : Heap) (locs : List Loc), TQ st0 0 (unZ j z) → OK2 (T + 99 * md) (unZ j z) → lv_has ls 28 [(15, .int tk), (14, .int can), (13, .int kd), (12, .int h), (11, .int (1 : Int32)), (2, .int n9), (0, .ref (xa 0)), (1, .int x)] → va_P D vwCl (wSp cy xa sa sb tr na ka (unZ j z)) H → va_D A (wSp cy xa sa sb tr na ka (unZ j z)) → va_S A s.heap H locs → @Wx p l e ({ frames := 10, cells := 3000, slots := 18000, locals := 300 } : Room) s m ([.ref (xa 0), .int x] : List Value).toArray below meth c H locs (cells + 1 * (j + 1)) (slots + 6 * (j + 1)) Q (F0 m 1001 ls [])), @Wx p l e ({ frames := 10, cells := 3000, slots := 18000, locals := 300 } : Room) s m ([.ref (xa 0), .int x] : List Value).toArray below meth c H locs cells slots Q (F0 m 964 ls []) := by
  have C1 := C0
  obtain ⟨hx, hb, hr, hlocks, hts, hown, hCF, hG, hF, hA, hl0⟩ := C0
  intro j
  induction j with
  | zero =>
    intro i z hi tq ok cells slots hc hs H locs ls hl hP hD hS kk
    refine lv_iload hx hb dL_holds_964 (lv_at hl 0 rfl) ?_
    refine lv_iload hx hb dL_holds_966 (lv_at hl 1 rfl) ?_
    refine lv_icmp_ge (tgt := 1001) hx hb dL_holds_968 (by decide) (fun _ => ?_) (fun q => absurd (by rw [i32_le, (nI_n (i := i) (by omega)).1, (nI_n (i := md) (by omega)).1]; omega) q)
    have hl : lv_has ls 28 [(15, .int tk), (14, .int can), (13, .int kd), (12, .int h), (11, .int (1 : Int32)), (2, .int n9), (0, .ref (xa 0)), (1, .int x)] := lv_sub hl [2, 3, 4, 5, 6, 7, 8, 9] rfl
    refine W.widen (k := cells + 1 * (0 + 1)) (n := slots + 6 * (0 + 1)) (by omega) (by omega) ?_
    exact kk _ _ _ tq (ok.up (by omega)) hl hP hD hS
  | succ j ih =>
    intro i z hi tq ok cells slots hc hs H locs ls hl hP hD hS kk
    have oz : OKz z := ok.oz (by omega) (by omega)
    obtain ⟨u1, u2⟩ := tq.undo oz.hi
    have ok2 := ok.call (by omega) (by omega) 17 (by decide) 0 0 0
    refine lv_iload hx hb dL_holds_964 (lv_at hl 0 rfl) ?_
    refine lv_iload hx hb dL_holds_966 (lv_at hl 1 rfl) ?_
    refine lv_icmp_ge (tgt := 1001) hx hb dL_holds_968 (by decide) (fun q => absurd q (by rw [i32_le, (nI_n (i := i) (by omega)).1, (nI_n (i := md) (by omega)).1]; omega)) (fun _ => ?_)
    refine lv_iload hx hb dL_holds_971 (lv_at hl 6 rfl) ?_
    refine lv_if_eq (tgt := 1001) hx hb dL_holds_973 (by decide) (fun q => absurd q (by decide)) (fun _ => ?_)
    refine lv_aload_n hx hb dL_holds_976 rfl (lv_at hl 8 rfl) ?_
    refine lv_bipush (v := (17 : Int32)) hx hb dL_holds_977 (by decide) ?_
    refine lv_iconst (v := (0 : Int32)) hx hb dL_holds_979 (by decide) ?_
    refine lv_iconst (v := (0 : Int32)) hx hb dL_holds_980 (by decide) ?_
    refine lv_iconst (v := (0 : Int32)) hx hb dL_holds_981 (by decide) ?_
    refine hwS (A0 := A) (As := [.ref (xa 0), .int (17 : Int32), .int (0 : Int32), .int (0 : Int32), .int (0 : Int32)]) (rest := []) (W1 := (wSp cy xa sa sb tr na ka z)) (W2 := (wSp cy xa sa sb tr na ka (callP z 17 0 0 0).2.2)) (c_L_call_17 l hl0 D cy t xa sa sb tr na ka oz 0 0 0) hCF gw_L_call.more rfl hq_L_call ⟨Nat.le_of_ble_eq_true rfl, Nat.le_of_ble_eq_true rfl⟩ hG hF hP hD hS hA h_Sp rfl hl.1 rfl (Nat.le_of_ble_eq_true rfl) dL_holds_982 ⟨by show _ ≤ 3000; omega, by show _ ≤ 18000; omega⟩ (fun H locs hP hD hS => ?_)
    refine lv_if_lt (tgt := 992) hx hb dL_holds_985 (by decide) (fun q => absurd q (by rw [i32_lt, i32_0]; omega)) (fun _ => ?_)
    refine lv_iconst (v := (1 : Int32)) hx hb dL_holds_988 (by decide) ?_
    refine lv_goto (tgt := 993) hx hb dL_holds_989 (by decide) ?_
    refine lv_istore (lv' := [(11, .int (1 : Int32)), (18, .int (nI i)), (17, .int (nI md)), (15, .int tk), (14, .int can), (13, .int kd), (12, .int h), (2, .int n9), (0, .ref (xa 0)), (1, .int x)]) hx hb dL_holds_993 hl (by decide) rfl (fun ls hl => ?_)
    refine lv_iinc (v := ((nI i) + (1 : Int32))) (lv' := [(18, .int ((nI i) + (1 : Int32))), (11, .int (1 : Int32)), (17, .int (nI md)), (15, .int tk), (14, .int can), (13, .int kd), (12, .int h), (2, .int n9), (0, .ref (xa 0)), (1, .int x)]) hx hb dL_holds_995 hl (k := 1) rfl rfl (by decide) rfl (fun ls hl => ?_)
    refine lv_goto (tgt := 964) hx hb dL_holds_998 (by decide) ?_
    have hl : lv_has ls 28 [(18, .int (nI i + (1 : Int32))), (17, .int (nI md)), (15, .int tk), (14, .int can), (13, .int kd), (12, .int h), (11, .int (1 : Int32)), (2, .int n9), (0, .ref (xa 0)), (1, .int x)] := lv_sub hl [0, 2, 3, 4, 5, 6, 1, 7, 8, 9] rfl
    rw [nI_1] at hl
    refine ih (i + 1) _ (by omega) u2 (ok2.up (by omega)) (by omega) (by omega) hl hP hD hS (fun ls H locs tq ok hl hP hD hS => ?_)
    refine W.widen (k := cells + 1 * (j + 1 + 1)) (n := slots + 6 * (j + 1 + 1)) (by omega) (by omega) ?_
    exact kk _ _ _ tq ok hl hP hD hS
set_option maxRecDepth 20000 in
theorem w_h9 {p : Program} {l : Launch} {e : Env} {s : State} {m : MethodId} {below : List Frame} {meth : Method} {c : Code} {D : va_G} {cy : Nat → ClassId} {t : FxA} {A : Nat → Prop} {Q : State → Prop} {xa sa sb tr na : Nat → Nat} {ka : Nat → Nat → Nat} {x : Int32} (C0 : LR p l s m meth c ([.ref (xa 0), .int x] : List Value).toArray cL_holds 28 wc_holds (some .boolean) D cy t A) {z : SpT} (oz : OKz z) {tk can kd h n9 : Int32} (ih : iv 0 4 h) (ik : iv 0 2 kd) {cells slots : Nat} (hc : cells + 4 ≤ 3000) (hs : slots + 24 ≤ 18000) {H : Heap} {locs : List Loc} {ls : Array Slot} (hl : lv_has ls 28 [(15, .int tk), (14, .int can), (13, .int kd), (12, .int h), (11, .int (1 : Int32)), (2, .int n9), (0, .ref (xa 0)), (1, .int x)]) (hP : va_P D vwCl (wSp cy xa sa sb tr na ka z) H) (hD : va_D A (wSp cy xa sa sb tr na ka z)) (hS : va_S A s.heap H locs) (kk : ∀ (ls : Array Slot) (H : Heap) (locs : List Loc), lv_has ls 28 [(15, .int tk), (14, .int can), (13, .int kd), (12, .int h), (11, .int (1 : Int32)), (2, .int n9), (0, .ref (xa 0)), (1, .int x)] → va_P D vwCl (wSp cy xa sa sb tr na ka z) H → va_D A (wSp cy xa sa sb tr na ka z) → va_S A s.heap H locs → @Wx p l e ({ frames := 10, cells := 3000, slots := 18000, locals := 300 } : Room) s m ([.ref (xa 0), .int x] : List Value).toArray below meth c H locs (cells + 4) (slots + 24) Q (F0 m 1080 ls [])) : @Wx p l e ({ frames := 10, cells := 3000, slots := 18000, locals := 300 } : Room) s m ([.ref (xa 0), .int x] : List Value).toArray below meth c H locs cells slots Q (F0 m 1001 ls []) := by
  obtain ⟨hx, hb, hr, hlocks, hts, hown, hCF, hG, hF, hA, hl0⟩ := C0
  have hq := cq_21 l hl0 D cy t xa sa sb tr na ka oz h kd 0
  rw [kv_21 (holdI ih) (is_kind ik)] at hq
  refine lv_aload_n hx hb dL_holds_1001 rfl (lv_at hl 6 rfl) ?_
  refine lv_bipush (v := (21 : Int32)) hx hb dL_holds_1002 (by decide) ?_
  refine lv_iload hx hb dL_holds_1004 (lv_at hl 3 rfl) ?_
  refine lv_iload hx hb dL_holds_1006 (lv_at hl 2 rfl) ?_
  refine lv_iconst (v := (0 : Int32)) hx hb dL_holds_1008 (by decide) ?_
  refine hwS (A0 := A) (As := [.ref (xa 0), .int (21 : Int32), .int h, .int kd, .int (0 : Int32)]) (rest := []) (W1 := (wSp cy xa sa sb tr na ka z)) (W2 := (wSp cy xa sa sb tr na ka z)) hq hCF gw_L_call.more rfl hq_L_call ⟨Nat.le_of_ble_eq_true rfl, Nat.le_of_ble_eq_true rfl⟩ hG hF hP hD hS hA rfl rfl hl.1 rfl (Nat.le_of_ble_eq_true rfl) dL_holds_1009 ⟨by show _ ≤ 3000; omega, by show _ ≤ 18000; omega⟩ (fun H locs hP hD hS => ?_)
  refine lv_istore (lv' := [(18, .int (m_X5_cheapestCore (pN z) h kd)), (15, .int tk), (14, .int can), (13, .int kd), (12, .int h), (11, .int (1 : Int32)), (2, .int n9), (0, .ref (xa 0)), (1, .int x)]) hx hb dL_holds_1012 hl (by decide) rfl (fun ls hl => ?_)
  have cf := chp_fact (st := pN z) oz.st.1 h kd
  generalize (m_X5_cheapestCore (pN z) h kd) = b9 at *
  refine lv_iload hx hb dL_holds_1014 (lv_at hl 5 rfl) ?_
  refine lv_if_eq (tgt := 1077) hx hb dL_holds_1016 (by decide) (fun q => absurd q (by decide)) (fun _ => ?_)
  refine lv_iload hx hb dL_holds_1019 (lv_at hl 0 rfl) ?_
  refine lv_iconst (v := (-1 : Int32)) hx hb dL_holds_1021 (by decide) ?_
  rcases cf with cf | ⟨f1, f2, f3, f4, f5⟩
  · refine lv_icmp_eq (tgt := 1073) hx hb dL_holds_1022 (by decide) (fun _ => ?_) (fun q => absurd cf q)
    refine lv_iconst (v := (1 : Int32)) hx hb dL_holds_1073 (by decide) ?_
    refine lv_goto (tgt := 1078) hx hb dL_holds_1074 (by decide) ?_
    refine lv_istore (lv' := [(11, .int (1 : Int32)), (18, .int b9), (15, .int tk), (14, .int can), (13, .int kd), (12, .int h), (2, .int n9), (0, .ref (xa 0)), (1, .int x)]) hx hb dL_holds_1078 hl (by decide) rfl (fun ls hl => ?_)
    have hl : lv_has ls 28 [(15, .int tk), (14, .int can), (13, .int kd), (12, .int h), (11, .int (1 : Int32)), (2, .int n9), (0, .ref (xa 0)), (1, .int x)] := lv_sub hl [2, 3, 4, 5, 0, 6, 7, 8] rfl
    refine W.widen (k := cells + 4) (n := slots + 24) (by omega) (by omega) ?_
    exact kk _ _ _ hl hP hD hS
  · refine lv_icmp_eq (tgt := 1073) hx hb dL_holds_1022 (by decide) (fun q => absurd q (fun e9 => due_no f1 e9)) (fun _ => ?_)
    refine lv_iload hx hb dL_holds_1025 (lv_at hl 4 rfl) ?_
    refine lv_iconst (v := (4 : Int32)) hx hb dL_holds_1027 (by decide) ?_
    refine lv_icmp_ge (tgt := 1077) hx hb dL_holds_1028 (by decide) (fun q => absurd q (by rw [i32_le, show (4 : Int32).toInt = 4 by decide]; have := ih.2; have : ¬ h.toInt = 4 := fun e => f5 (i32_eq (by rw [e]; decide)); omega)) (fun _ => ?_)
    have hq := cq_3 l hl0 D cy t xa sa sb tr na ka oz b9 1 0
    rw [(kv_unit (v := 0) f1).2.1, f2] at hq
    refine lv_aload_n hx hb dL_holds_1031 rfl (lv_at hl 7 rfl) ?_
    refine lv_iconst (v := (3 : Int32)) hx hb dL_holds_1032 (by decide) ?_
    refine lv_iload hx hb dL_holds_1033 (lv_at hl 0 rfl) ?_
    refine lv_iconst (v := (1 : Int32)) hx hb dL_holds_1035 (by decide) ?_
    refine lv_iconst (v := (0 : Int32)) hx hb dL_holds_1036 (by decide) ?_
    refine hwS (A0 := A) (As := [.ref (xa 0), .int (3 : Int32), .int b9, .int (1 : Int32), .int (0 : Int32)]) (rest := []) (W1 := (wSp cy xa sa sb tr na ka z)) (W2 := (wSp cy xa sa sb tr na ka z)) hq hCF gw_L_call.more rfl hq_L_call ⟨Nat.le_of_ble_eq_true rfl, Nat.le_of_ble_eq_true rfl⟩ hG hF hP hD hS hA rfl rfl hl.1 rfl (Nat.le_of_ble_eq_true rfl) dL_holds_1037 ⟨by show _ ≤ 3000; omega, by show _ ≤ 18000; omega⟩ (fun H locs hP hD hS => ?_)
    refine lv_iload hx hb dL_holds_1040 (lv_at hl 4 rfl) ?_
    refine lv_icmp_ne (tgt := 1077) hx hb dL_holds_1042 (by decide) (fun q => absurd rfl q) (fun _ => ?_)
    have hq := cq_3 l hl0 D cy t xa sa sb tr na ka oz b9 2 0
    rw [(kv_unit (v := 0) f1).2.2.1, f3] at hq
    refine lv_aload_n hx hb dL_holds_1045 rfl (lv_at hl 7 rfl) ?_
    refine lv_iconst (v := (3 : Int32)) hx hb dL_holds_1046 (by decide) ?_
    refine lv_iload hx hb dL_holds_1047 (lv_at hl 0 rfl) ?_
    refine lv_iconst (v := (2 : Int32)) hx hb dL_holds_1049 (by decide) ?_
    refine lv_iconst (v := (0 : Int32)) hx hb dL_holds_1050 (by decide) ?_
    refine hwS (A0 := A) (As := [.ref (xa 0), .int (3 : Int32), .int b9, .int (2 : Int32), .int (0 : Int32)]) (rest := []) (W1 := (wSp cy xa sa sb tr na ka z)) (W2 := (wSp cy xa sa sb tr na ka z)) hq hCF gw_L_call.more rfl hq_L_call ⟨Nat.le_of_ble_eq_true rfl, Nat.le_of_ble_eq_true rfl⟩ hG hF hP hD hS hA rfl rfl hl.1 rfl (Nat.le_of_ble_eq_true rfl) dL_holds_1051 ⟨by show _ ≤ 3000; omega, by show _ ≤ 18000; omega⟩ (fun H locs hP hD hS => ?_)
    refine lv_iload hx hb dL_holds_1054 (lv_at hl 4 rfl) ?_
    refine lv_icmp_ne (tgt := 1077) hx hb dL_holds_1056 (by decide) (fun q => absurd rfl q) (fun _ => ?_)
    have hq := cq_3 l hl0 D cy t xa sa sb tr na ka oz b9 0 0
    rw [(kv_unit (v := 0) f1).1, f4] at hq
    refine lv_aload_n hx hb dL_holds_1059 rfl (lv_at hl 7 rfl) ?_
    refine lv_iconst (v := (3 : Int32)) hx hb dL_holds_1060 (by decide) ?_
    refine lv_iload hx hb dL_holds_1061 (lv_at hl 0 rfl) ?_
    refine lv_iconst (v := (0 : Int32)) hx hb dL_holds_1063 (by decide) ?_
    refine lv_iconst (v := (0 : Int32)) hx hb dL_holds_1064 (by decide) ?_
    refine hwS (A0 := A) (As := [.ref (xa 0), .int (3 : Int32), .int b9, .int (0 : Int32), .int (0 : Int32)]) (rest := []) (W1 := (wSp cy xa sa sb tr na ka z)) (W2 := (wSp cy xa sa sb tr na ka z)) hq hCF gw_L_call.more rfl hq_L_call ⟨Nat.le_of_ble_eq_true rfl, Nat.le_of_ble_eq_true rfl⟩ hG hF hP hD hS hA rfl rfl hl.1 rfl (Nat.le_of_ble_eq_true rfl) dL_holds_1065 ⟨by show _ ≤ 3000; omega, by show _ ≤ 18000; omega⟩ (fun H locs hP hD hS => ?_)
    refine lv_iload hx hb dL_holds_1068 (lv_at hl 3 rfl) ?_
    refine lv_icmp_ne (tgt := 1077) hx hb dL_holds_1070 (by decide) (fun q => absurd rfl q) (fun _ => ?_)
    refine lv_iconst (v := (1 : Int32)) hx hb dL_holds_1073 (by decide) ?_
    refine lv_goto (tgt := 1078) hx hb dL_holds_1074 (by decide) ?_
    refine lv_istore (lv' := [(11, .int (1 : Int32)), (18, .int b9), (15, .int tk), (14, .int can), (13, .int kd), (12, .int h), (2, .int n9), (0, .ref (xa 0)), (1, .int x)]) hx hb dL_holds_1078 hl (by decide) rfl (fun ls hl => ?_)
    have hl : lv_has ls 28 [(15, .int tk), (14, .int can), (13, .int kd), (12, .int h), (11, .int (1 : Int32)), (2, .int n9), (0, .ref (xa 0)), (1, .int x)] := lv_sub hl [2, 3, 4, 5, 0, 6, 7, 8] rfl
    refine W.widen (k := cells + 4) (n := slots + 24) (by omega) (by omega) ?_
    exact kk _ _ _ hl hP hD hS
