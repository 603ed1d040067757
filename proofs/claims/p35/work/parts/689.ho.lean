/-! p35: the contract of holds -/
theorem a01 : (0 : Int32) + 1 = 1 := by decide
theorem a12 : (1 : Int32) + 1 = 2 := by decide
theorem a23 : (2 : Int32) + 1 = 3 := by decide
theorem a34 : (3 : Int32) + 1 = 4 := by decide
theorem a45 : (4 : Int32) + 1 = 5 := by decide
theorem z_add (a : Int32) : 0 + a = a := by grind
section HT
variable {z : SpT}
theorem ht_3 {T : Int} (g : SG T (pN z)) : kV (callP z 2 9 0 0) + kV (callP z 4 0 0 0) + kV (callP z 4 1 0 0) + kV (callP z 4 2 0 0) + kV (callP z 4 3 0 0) + kV (callP z 4 4 0 0) = 0 := by
  rw [kv_a9, kv_h0 (x := 0) (holdI ⟨by decide, by decide⟩), kv_h0 (x := 1) (holdI ⟨by decide, by decide⟩), kv_h0 (x := 2) (holdI ⟨by decide, by decide⟩), kv_h0 (x := 3) (holdI ⟨by decide, by decide⟩), kv_h0 (x := 4) (holdI ⟨by decide, by decide⟩), kn0, kn1, kn2, kn3, kn4]
  exact g.1
theorem ht_4 (hu : uOK (sU (pN z))) (hv : ∀ u : Nat, u < 16 → iv 0 4 (uO (sU (pN z)) u)) : (0 : Int32) + kV (callP z 4 0 1 0) + kV (callP z 4 1 1 0) + kV (callP z 4 2 1 0) + kV (callP z 4 3 1 0) + kV (callP z 4 4 1 0) = uN (sU (pN z)) := by
  rw [kv_h1 (x := 0) (holdI ⟨by decide, by decide⟩), kv_h1 (x := 1) (holdI ⟨by decide, by decide⟩), kv_h1 (x := 2) (holdI ⟨by decide, by decide⟩), kv_h1 (x := 3) (holdI ⟨by decide, by decide⟩), kv_h1 (x := 4) (holdI ⟨by decide, by decide⟩), z_add]
  exact tot_own hu hv
theorem ht_5 (hu : uOK (sU (pN z))) (hv : ∀ u : Nat, u < 16 → iv 0 4 (uP (sU (pN z)) u)) : (0 : Int32) + kV (callP z 4 0 2 0) + kV (callP z 4 1 2 0) + kV (callP z 4 2 2 0) + kV (callP z 4 3 2 0) + kV (callP z 4 4 2 0) = uN (sU (pN z)) := by
  rw [kv_h2 (x := 0) (holdI ⟨by decide, by decide⟩), kv_h2 (x := 1) (holdI ⟨by decide, by decide⟩), kv_h2 (x := 2) (holdI ⟨by decide, by decide⟩), kv_h2 (x := 3) (holdI ⟨by decide, by decide⟩), kv_h2 (x := 4) (holdI ⟨by decide, by decide⟩), z_add]
  exact tot_plc hu hv
theorem ht_6 (hu : uOK (sU (pN z))) (hv : ∀ u : Nat, u < 16 → iv 0 4 (uP (sU (pN z)) u)) : (0 : Int32) + kV (callP z 4 0 3 0) + kV (callP z 4 1 3 0) + kV (callP z 4 2 3 0) + kV (callP z 4 3 3 0) + kV (callP z 4 4 3 0) = m_X7_onLoan (sU (pN z)) := by
  rw [kv_h3 (x := 0) (holdI ⟨by decide, by decide⟩), kv_h3 (x := 1) (holdI ⟨by decide, by decide⟩), kv_h3 (x := 2) (holdI ⟨by decide, by decide⟩), kv_h3 (x := 3) (holdI ⟨by decide, by decide⟩), kv_h3 (x := 4) (holdI ⟨by decide, by decide⟩), z_add]
  exact tot_bor hu hv
theorem ht_7 (hu : uOK (sU (pN z))) (hv : ∀ u : Nat, u < 16 → iv 0 4 (uO (sU (pN z)) u) ∧ iv 0 4 (uP (sU (pN z)) u)) {d : Int32} (hd : iv 0 99 d) : (0 : Int32) + kV (callP z 20 0 d 0) + kV (callP z 20 1 d 0) + kV (callP z 20 2 d 0) + kV (callP z 20 3 d 0) + kV (callP z 20 4 d 0) = 0 := by
  rw [kv_bill (x := 0) (holdI ⟨by decide, by decide⟩) hd, kv_bill (x := 1) (holdI ⟨by decide, by decide⟩) hd, kv_bill (x := 2) (holdI ⟨by decide, by decide⟩) hd, kv_bill (x := 3) (holdI ⟨by decide, by decide⟩) hd, kv_bill (x := 4) (holdI ⟨by decide, by decide⟩) hd, z_add]
  exact tot_fee hu hv d
theorem ht_8 : (0 : Int32) + kV (callP z 4 0 5 0) + kV (callP z 4 1 5 0) + kV (callP z 4 2 5 0) + kV (callP z 4 3 5 0) + kV (callP z 4 4 5 0) = (0 : Int32) + kV (callP z 4 0 6 0) + kV (callP z 4 1 6 0) + kV (callP z 4 2 6 0) + kV (callP z 4 3 6 0) + kV (callP z 4 4 6 0) := by
  rw [kv_h5 (x := 0) (holdI ⟨by decide, by decide⟩), kv_h5 (x := 1) (holdI ⟨by decide, by decide⟩), kv_h5 (x := 2) (holdI ⟨by decide, by decide⟩), kv_h5 (x := 3) (holdI ⟨by decide, by decide⟩), kv_h5 (x := 4) (holdI ⟨by decide, by decide⟩), kv_h6 (x := 0) (holdI ⟨by decide, by decide⟩), kv_h6 (x := 1) (holdI ⟨by decide, by decide⟩), kv_h6 (x := 2) (holdI ⟨by decide, by decide⟩), kv_h6 (x := 3) (holdI ⟨by decide, by decide⟩), kv_h6 (x := 4) (holdI ⟨by decide, by decide⟩)]
  exact tot_get _
theorem ht_9 : (0 : Int32) + kV (callP z 4 0 5 0) + kV (callP z 4 1 5 0) + kV (callP z 4 2 5 0) + kV (callP z 4 3 5 0) + kV (callP z 4 4 5 0) = m_X1_all (sD (pN z)) := by
  rw [kv_h5 (x := 0) (holdI ⟨by decide, by decide⟩), kv_h5 (x := 1) (holdI ⟨by decide, by decide⟩), kv_h5 (x := 2) (holdI ⟨by decide, by decide⟩), kv_h5 (x := 3) (holdI ⟨by decide, by decide⟩), kv_h5 (x := 4) (holdI ⟨by decide, by decide⟩)]
  exact (tot_all _).symm
theorem ht_10 : (0 : Int32) + kV (callP z 4 0 4 0) + kV (callP z 4 1 4 0) + kV (callP z 4 2 4 0) + kV (callP z 4 3 4 0) + kV (callP z 4 4 4 0) = m_X0_all (sC (pN z)) := by
  rw [kv_h4 (x := 0) (holdI ⟨by decide, by decide⟩), kv_h4 (x := 1) (holdI ⟨by decide, by decide⟩), kv_h4 (x := 2) (holdI ⟨by decide, by decide⟩), kv_h4 (x := 3) (holdI ⟨by decide, by decide⟩), kv_h4 (x := 4) (holdI ⟨by decide, by decide⟩)]
  exact (tot_cal _).symm
end HT
set_option maxRecDepth 20000 in
theorem w_h12 {p : Program} {l : Launch} {e : Env} {s : State} {m : MethodId} {below : List Frame} {meth : Method} {c : Code} {D : va_G} {cy : Nat → ClassId} {t : FxA} {A : Nat → Prop} {xa sa sb tr na : Nat → Nat} {ka : Nat → Nat → Nat} {x : Int32} (C0 : LR p l s m meth c ([.ref (xa 0), .int x] : List Value).toArray cL_holds 28 wc_holds (some .boolean) D cy t A) {z : SpT} {st0 : StT} {T : Int} {md : Nat} {tk can kd h n9 : Int32} (h0 : 100000 ≤ T) (h1 : T ≤ 980000) (m12 : md ≤ 12) (tq : TQ st0 md z) (ok : OK2 T z) (ih : iv 0 4 h) (ik : iv 0 2 kd) (e1 : can = m_X7_mostCompleted (sU st0) h kd) (e2 : tk = m_X7_fewestTakings (sU st0) h kd) {cells slots : Nat} (hc : cells + 60 ≤ 3000) (hs : slots + 360 ≤ 18000) {H : Heap} {locs : List Loc} {ls : Array Slot} (hl : lv_has ls 28 [(17, .int (nI md)), (15, .int tk), (14, .int can), (13, .int kd), (12, .int h), (11, .int (1 : Int32)), (2, .int n9), (0, .ref (xa 0)), (1, .int x)]) (hP : va_P D vwCl (wSp cy xa sa sb tr na ka z) H) (hD : va_D A (wSp cy xa sa sb tr na ka z)) (hS : va_S A s.heap H locs) : @Wx p l e ({ frames := 10, cells := 3000, slots := 18000, locals := 300 } : Room) s m ([.ref (xa 0), .int x] : List Value).toArray below meth c H locs cells slots (MQ below (va_Qi (fun r (_ : Unit) => r = 1) (fun _ t => va_P D vwCl (wSp cy xa sa sb tr na ka (duZ (unZ md z))) t.heap) A) ([.ref (xa 0), .int x] : List Value).toArray s 3000 18000 A) (F0 m 961 ls []) := by
  have C1 := C0
  obtain ⟨hx, hb, hr, hlocks, hts, hown, hCF, hG, hF, hA, hl0⟩ := C0
  refine lv_iconst (v := (0 : Int32)) hx hb dL_holds_961 (by decide) ?_
  refine lv_istore (lv' := [(18, .int (0 : Int32)), (17, .int (nI md)), (15, .int tk), (14, .int can), (13, .int kd), (12, .int h), (11, .int (1 : Int32)), (2, .int n9), (0, .ref (xa 0)), (1, .int x)]) hx hb dL_holds_962 hl (by decide) rfl (fun ls hl => ?_)
  have hl : lv_has ls 28 [(18, .int (nI 0)), (17, .int (nI md)), (15, .int tk), (14, .int can), (13, .int kd), (12, .int h), (11, .int (1 : Int32)), (2, .int n9), (0, .ref (xa 0)), (1, .int x)] := hl
  refine w_ul C1 (T := T) (by omega) (by omega) m12 md 0 z (by omega) tq (ok.up (by omega)) (by omega) (by omega) hl hP hD hS (fun ls H locs tq ok hl hP hD hS => ?_)
  have e0 : pN (unZ md z) = st0 := tq.2.1 rfl
  have oz : OKz (unZ md z) := ok.oz (by omega) (by omega)
  refine w_h9 C1 oz ih ik (by omega) (by omega) hl hP hD hS (fun ls H locs hl hP hD hS => ?_)
  refine w_h10 C1 oz ok (by omega) (by omega) (by omega) (by omega) hl hP hD hS (fun ls H locs ed ok hl hP hD hS => ?_)
  exact w_h11 C1 (ok.oz (by omega) (by omega)) ih ik (by rw [ed, e0]; exact e1) (by rw [ed, e0]; exact e2) (by omega) (by omega) hl hP hD hS
set_option maxRecDepth 20000 in
theorem c_L_holds (l : Launch) (hl0 : l.stackTraces = false) (D : va_G) (cy : Nat → ClassId) (t : FxA) (xa sa sb tr na : Nat → Nat) (ka : Nat → Nat → Nat) {z : SpT} {T : Int} (ok : OK2 T z) (h0 : 100000 ≤ T) (h1 : T ≤ 890000) {x : Int32} (hx0 : 0 ≤ x.toInt) : HW 10 3000 18000 300 l D cy t yL_holds wc_holds (wSp cy xa sa sb tr na ka z) (wSp cy xa sa sb tr na ka (holdP z x)) [.ref (xa 0), .int x] 1 := by
  refine HW.body (by decide) rfl (Nat.le_of_ble_eq_true rfl) ?_
  intro p e s m below meth c hx hb hml hr hts hown hlocks hP hG ls hl A hD hA hS hF
  have hl : lv_has ls 28 [(0, .ref (xa 0)), (1, .int x)] := hl
  have hCF : CallFix p m c cL_holds 28 s ([.ref (xa 0), .int x] : List Value).toArray wc_holds RL := ⟨hx, hb, hml, hown, hts⟩
  have C1 : LR p l s m meth c ([.ref (xa 0), .int x] : List Value).toArray cL_holds 28 wc_holds (some .boolean) D cy t A := ⟨hx, hb, hr, hlocks, hts, hown, hCF, hG, hF, hA, hl0⟩
  have oz : OKz z := ok.oz h0 (by omega)
  have g : SG T (pN z) := ok.2.1
  have hk2 : iv 0 2 (rmJ (x / (8 : Int32)) (3 : Int32)) := rmJ_3 (by rw [i32_div hx0 (show (8 : Int32).toInt = 8 by decide) (by decide)]; omega)
  have hd : iv 0 99 (rmJ x (100 : Int32)) := by unfold iv; rw [rmJ_n hx0 (K := 100) (by decide) (by decide)]; omega
  have hu := oz.st.1
  obtain ⟨t1, t2, t3, t4, t5, t6, t7⟩ := tk_fact hu (okz_7 oz) (rmJ x (5 : Int32)) (rmJ (x / (8 : Int32)) (3 : Int32))
  refine lv_aload_n hx hb dL_holds_0 rfl (lv_at hl 0 rfl) ?_
  refine lv_iconst (v := (2 : Int32)) hx hb dL_holds_1 (by decide) ?_
  refine lv_iconst (v := (1 : Int32)) hx hb dL_holds_2 (by decide) ?_
  refine lv_iconst (v := (0 : Int32)) hx hb dL_holds_3 (by decide) ?_
  refine lv_iconst (v := (0 : Int32)) hx hb dL_holds_4 (by decide) ?_
  refine hwS (A0 := A) (As := [.ref (xa 0), .int (2 : Int32), .int (1 : Int32), .int (0 : Int32), .int (0 : Int32)]) (rest := []) (W1 := (wSp cy xa sa sb tr na ka z)) (W2 := (wSp cy xa sa sb tr na ka z)) (v := (uN (sU (pN z)))) (cq_2 l hl0 D cy t xa sa sb tr na ka oz 1 0 0) hCF gw_L_call.more rfl hq_L_call ⟨Nat.le_of_ble_eq_true rfl, Nat.le_of_ble_eq_true rfl⟩ hG hF hP hD hS hA rfl rfl hl.1 rfl (Nat.le_of_ble_eq_true rfl) dL_holds_5 ⟨by show _ ≤ 3000; omega, by show _ ≤ 18000; omega⟩ (fun H locs hP hD hS => ?_)
  refine lv_istore_n (lv' := [(2, .int (uN (sU (pN z)))), (0, .ref (xa 0)), (1, .int x)]) hx hb dL_holds_8 rfl hl (by decide) rfl (fun ls hl => ?_)
  refine lv_aload_n hx hb dL_holds_9 rfl (lv_at hl 1 rfl) ?_
  refine lv_iconst (v := (2 : Int32)) hx hb dL_holds_10 (by decide) ?_
  refine lv_bipush (v := (9 : Int32)) hx hb dL_holds_11 (by decide) ?_
  refine lv_iconst (v := (0 : Int32)) hx hb dL_holds_13 (by decide) ?_
  refine lv_iconst (v := (0 : Int32)) hx hb dL_holds_14 (by decide) ?_
  refine hwS (A0 := A) (As := [.ref (xa 0), .int (2 : Int32), .int (9 : Int32), .int (0 : Int32), .int (0 : Int32)]) (rest := []) (W1 := (wSp cy xa sa sb tr na ka z)) (W2 := (wSp cy xa sa sb tr na ka z)) (cq_2 l hl0 D cy t xa sa sb tr na ka oz (9 : Int32) (0 : Int32) (0 : Int32)) hCF gw_L_call.more rfl hq_L_call ⟨Nat.le_of_ble_eq_true rfl, Nat.le_of_ble_eq_true rfl⟩ hG hF hP hD hS hA rfl rfl hl.1 rfl (Nat.le_of_ble_eq_true rfl) dL_holds_15 ⟨by show _ ≤ 3000; omega, by show _ ≤ 18000; omega⟩ (fun H locs hP hD hS => ?_)
  refine lv_istore_n (lv' := [(3, .int (kV (callP z 2 (9 : Int32) (0 : Int32) (0 : Int32)))), (2, .int (uN (sU (pN z)))), (0, .ref (xa 0)), (1, .int x)]) hx hb dL_holds_18 rfl hl (by decide) rfl (fun ls hl => ?_)
  refine lv_iconst (v := (0 : Int32)) hx hb dL_holds_19 (by decide) ?_
  refine lv_istore (lv' := [(4, .int (0 : Int32)), (3, .int (kV (callP z 2 (9 : Int32) (0 : Int32) (0 : Int32)))), (2, .int (uN (sU (pN z)))), (0, .ref (xa 0)), (1, .int x)]) hx hb dL_holds_20 hl (by decide) rfl (fun ls hl => ?_)
  refine lv_iconst (v := (0 : Int32)) hx hb dL_holds_22 (by decide) ?_
  refine lv_istore (lv' := [(5, .int (0 : Int32)), (4, .int (0 : Int32)), (3, .int (kV (callP z 2 (9 : Int32) (0 : Int32) (0 : Int32)))), (2, .int (uN (sU (pN z)))), (0, .ref (xa 0)), (1, .int x)]) hx hb dL_holds_23 hl (by decide) rfl (fun ls hl => ?_)
  refine lv_iconst (v := (0 : Int32)) hx hb dL_holds_25 (by decide) ?_
  refine lv_istore (lv' := [(6, .int (0 : Int32)), (5, .int (0 : Int32)), (4, .int (0 : Int32)), (3, .int (kV (callP z 2 (9 : Int32) (0 : Int32) (0 : Int32)))), (2, .int (uN (sU (pN z)))), (0, .ref (xa 0)), (1, .int x)]) hx hb dL_holds_26 hl (by decide) rfl (fun ls hl => ?_)
  refine lv_iconst (v := (0 : Int32)) hx hb dL_holds_28 (by decide) ?_
  refine lv_istore (lv' := [(7, .int (0 : Int32)), (6, .int (0 : Int32)), (5, .int (0 : Int32)), (4, .int (0 : Int32)), (3, .int (kV (callP z 2 (9 : Int32) (0 : Int32) (0 : Int32)))), (2, .int (uN (sU (pN z)))), (0, .ref (xa 0)), (1, .int x)]) hx hb dL_holds_29 hl (by decide) rfl (fun ls hl => ?_)
  refine lv_iconst (v := (0 : Int32)) hx hb dL_holds_31 (by decide) ?_
  refine lv_istore (lv' := [(8, .int (0 : Int32)), (7, .int (0 : Int32)), (6, .int (0 : Int32)), (5, .int (0 : Int32)), (4, .int (0 : Int32)), (3, .int (kV (callP z 2 (9 : Int32) (0 : Int32) (0 : Int32)))), (2, .int (uN (sU (pN z)))), (0, .ref (xa 0)), (1, .int x)]) hx hb dL_holds_32 hl (by decide) rfl (fun ls hl => ?_)
  refine lv_iconst (v := (0 : Int32)) hx hb dL_holds_34 (by decide) ?_
  refine lv_istore (lv' := [(9, .int (0 : Int32)), (8, .int (0 : Int32)), (7, .int (0 : Int32)), (6, .int (0 : Int32)), (5, .int (0 : Int32)), (4, .int (0 : Int32)), (3, .int (kV (callP z 2 (9 : Int32) (0 : Int32) (0 : Int32)))), (2, .int (uN (sU (pN z)))), (0, .ref (xa 0)), (1, .int x)]) hx hb dL_holds_35 hl (by decide) rfl (fun ls hl => ?_)
  refine lv_iconst (v := (0 : Int32)) hx hb dL_holds_37 (by decide) ?_
  refine lv_istore (lv' := [(10, .int (0 : Int32)), (9, .int (0 : Int32)), (8, .int (0 : Int32)), (7, .int (0 : Int32)), (6, .int (0 : Int32)), (5, .int (0 : Int32)), (4, .int (0 : Int32)), (3, .int (kV (callP z 2 (9 : Int32) (0 : Int32) (0 : Int32)))), (2, .int (uN (sU (pN z)))), (0, .ref (xa 0)), (1, .int x)]) hx hb dL_holds_38 hl (by decide) rfl (fun ls hl => ?_)
  refine lv_iconst (v := (1 : Int32)) hx hb dL_holds_40 (by decide) ?_
  refine lv_istore (lv' := [(11, .int (1 : Int32)), (10, .int (0 : Int32)), (9, .int (0 : Int32)), (8, .int (0 : Int32)), (7, .int (0 : Int32)), (6, .int (0 : Int32)), (5, .int (0 : Int32)), (4, .int (0 : Int32)), (3, .int (kV (callP z 2 (9 : Int32) (0 : Int32) (0 : Int32)))), (2, .int (uN (sU (pN z)))), (0, .ref (xa 0)), (1, .int x)]) hx hb dL_holds_41 hl (by decide) rfl (fun ls hl => ?_)
  refine lv_iconst (v := (0 : Int32)) hx hb dL_holds_43 (by decide) ?_
  refine lv_istore (lv' := [(12, .int (0 : Int32)), (11, .int (1 : Int32)), (10, .int (0 : Int32)), (9, .int (0 : Int32)), (8, .int (0 : Int32)), (7, .int (0 : Int32)), (6, .int (0 : Int32)), (5, .int (0 : Int32)), (4, .int (0 : Int32)), (3, .int (kV (callP z 2 (9 : Int32) (0 : Int32) (0 : Int32)))), (2, .int (uN (sU (pN z)))), (0, .ref (xa 0)), (1, .int x)]) hx hb dL_holds_44 hl (by decide) rfl (fun ls hl => ?_)
  have hl : lv_has ls 28 [(12, .int (0 : Int32)), (11, .int (1 : Int32)), (10, .int (0 : Int32)), (9, .int (0 : Int32)), (8, .int (0 : Int32)), (7, .int (0 : Int32)), (6, .int (0 : Int32)), (5, .int (0 : Int32)), (4, .int (0 : Int32)), (3, .int (kV (callP z 2 (9 : Int32) (0 : Int32) (0 : Int32)))), (2, .int (uN (sU (pN z)))), (0, .ref (xa 0)), (1, .int x)] := lv_sub hl [0, 1, 2, 3, 4, 5, 6, 7, 8, 9, 10, 11, 12] rfl
  refine w_hh C1 oz g (h := 0) ⟨by decide, by decide⟩ (by omega) (by omega) hl hP hD hS (fun ls H locs hl hP hD hS => ?_)
  rw [a01] at hl
  refine w_hh C1 oz g (h := 1) ⟨by decide, by decide⟩ (by omega) (by omega) hl hP hD hS (fun ls H locs hl hP hD hS => ?_)
  rw [a12] at hl
  refine w_hh C1 oz g (h := 2) ⟨by decide, by decide⟩ (by omega) (by omega) hl hP hD hS (fun ls H locs hl hP hD hS => ?_)
  rw [a23] at hl
  refine w_hh C1 oz g (h := 3) ⟨by decide, by decide⟩ (by omega) (by omega) hl hP hD hS (fun ls H locs hl hP hD hS => ?_)
  rw [a34] at hl
  refine w_hh C1 oz g (h := 4) ⟨by decide, by decide⟩ (by omega) (by omega) hl hP hD hS (fun ls H locs hl hP hD hS => ?_)
  rw [a45] at hl
  refine lv_iload hx hb dL_holds_46 (lv_at hl 0 rfl) ?_
  refine lv_iconst (v := (5 : Int32)) hx hb dL_holds_48 (by decide) ?_
  refine lv_icmp_ge (tgt := 264) hx hb dL_holds_49 (by decide) (fun _ => ?_) (fun q => absurd (show (5 : Int32) ≤ 5 by decide) q)
  have hl : lv_has ls 28 [(11, .int (1 : Int32)), (10, .int ((0 : Int32) + kV (callP z 4 0 4 0) + kV (callP z 4 1 4 0) + kV (callP z 4 2 4 0) + kV (callP z 4 3 4 0) + kV (callP z 4 4 4 0))), (9, .int ((0 : Int32) + kV (callP z 4 0 6 0) + kV (callP z 4 1 6 0) + kV (callP z 4 2 6 0) + kV (callP z 4 3 6 0) + kV (callP z 4 4 6 0))), (8, .int ((0 : Int32) + kV (callP z 4 0 5 0) + kV (callP z 4 1 5 0) + kV (callP z 4 2 5 0) + kV (callP z 4 3 5 0) + kV (callP z 4 4 5 0))), (7, .int ((((((0 : Int32) + kV (callP z 20 0 (rmJ x 100) 0)) + kV (callP z 20 1 (rmJ x 100) 0)) + kV (callP z 20 2 (rmJ x 100) 0)) + kV (callP z 20 3 (rmJ x 100) 0)) + kV (callP z 20 4 (rmJ x 100) 0))), (6, .int ((0 : Int32) + kV (callP z 4 0 3 0) + kV (callP z 4 1 3 0) + kV (callP z 4 2 3 0) + kV (callP z 4 3 3 0) + kV (callP z 4 4 3 0))), (5, .int ((0 : Int32) + kV (callP z 4 0 2 0) + kV (callP z 4 1 2 0) + kV (callP z 4 2 2 0) + kV (callP z 4 3 2 0) + kV (callP z 4 4 2 0))), (4, .int ((0 : Int32) + kV (callP z 4 0 1 0) + kV (callP z 4 1 1 0) + kV (callP z 4 2 1 0) + kV (callP z 4 3 1 0) + kV (callP z 4 4 1 0))), (3, .int ((kV (callP z 2 9 0 0)) + kV (callP z 4 0 0 0) + kV (callP z 4 1 0 0) + kV (callP z 4 2 0 0) + kV (callP z 4 3 0 0) + kV (callP z 4 4 0 0))), (2, .int (uN (sU (pN z)))), (0, .ref (xa 0)), (1, .int x)] := lv_sub hl [1, 2, 3, 4, 5, 6, 7, 8, 9, 10, 11, 12] rfl
  refine w_h3 C1 oz g (ht_3 g) (ht_4 hu (fun u q => (g.2.2.2 u q).1)) (ht_5 hu (fun u q => (g.2.2.2 u q).2)) (ht_6 hu (fun u q => (g.2.2.2 u q).2)) (ht_7 hu g.2.2.2 hd) ht_8 ht_9 ht_10 (by omega) (by omega) hl hP hD hS (fun ls H locs hl hP hD hS => ?_)
  refine w_h4 C1 oz hx0 hk2 (by omega) (by omega) hl hP hD hS (fun ls H locs hl hP hD hS => ?_)
  have m16 := (um16 hu).1
  refine w_us C1 oz (uM (sU (pN z))) 0 0 (by omega) (by rw [i32_0]; rfl) (by omega) (by omega) hl hP hD hS (fun ls H locs us hus hl hP hD hS => ?_)
  rw [← hus] at t3 t5 t6
  refine w_h6a C1 t1 t2 t3 t4 t5 t6 (by omega) (by omega) hl hP hD hS (fun ls H locs hl hP hD hS => ?_)
  refine w_h6b C1 t1 t2 t3 t4 t5 t6 (by omega) (by omega) hl hP hD hS (fun ls H locs hl hP hD hS => ?_)
  by_cases tp : 0 < (m_X7_fewestTakings (sU (pN z)) (rmJ x (5 : Int32)) (rmJ (x / (8 : Int32)) (3 : Int32))).toInt ∧ (m_X7_fewestTakings (sU (pN z)) (rmJ x (5 : Int32)) (rmJ (x / (8 : Int32)) (3 : Int32))).toInt ≤ 12
  · have ek : hoK z x = tkL (rmJ x 5) (rmJ (x / 8) 3) (m_X7_fewestTakings (sU (pN z)) (rmJ x 5) (rmJ (x / 8) 3)) 12 z 0 := by
      unfold hoK tkA
      rw [if_pos (by rw [i32_lt, i32_0, i32_le, show (12 : Int32).toInt = 12 by decide]; exact tp)]
    have ml := hoK_le z x
    have ep : holdP z x = duZ (unZ (hoK z x).2 (hoK z x).1) := rfl
    rw [ep]
    rw [ek] at ml ⊢
    have ti : TI T z (rmJ x 5) (rmJ (x / 8) 3) 0 z := ⟨ok.up (by omega), ⟨Nat.zero_le _, fun _ => rfl, fun q => absurd q (by decide)⟩, rfl, t7 tp.1⟩
    refine w_gl C1 h0 h1 tp rfl 12 0 0 z (by omega) (by omega) ti (by omega) (by omega) hl hP hD hS (fun ls H locs ti hl hP hD hS => ?_)
    exact w_h12 C1 (T := T + 1188) (by omega) (by omega) ml ti.2.1 (ti.1.up (by omega)) (rmJ_5 hx0) hk2 rfl rfl (by omega) (by omega) hl hP hD hS
  · have ek : hoK z x = (z, 0) := by
      unfold hoK tkA
      rw [if_neg (by rw [i32_lt, i32_0, i32_le, show (12 : Int32).toInt = 12 by decide]; exact tp)]
    have ep : holdP z x = duZ (unZ (hoK z x).2 (hoK z x).1) := rfl
    rw [ep, ek]
    refine w_gn C1 tp (by omega) (by omega) hl hP hD hS (fun ls H locs hl hP hD hS => ?_)
    exact w_h12 C1 (md := 0) (T := T) (by omega) (by omega) (by omega) ⟨Nat.zero_le _, fun _ => rfl, fun q => absurd q (by decide)⟩ ok (rmJ_5 hx0) hk2 rfl rfl (by omega) (by omega) hl hP hD hS
