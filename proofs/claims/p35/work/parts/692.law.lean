/-! p35: the law's step -/
/-- the law's fixed things -/
def LC (p : Program) (l : Launch) (s : State) (m : MethodId) (meth : Method) (c : Code) (b L : Nat) (xs : Nat → Int32) (D : va_G) (cy : Nat → ClassId) (t : FxA) (A : Nat → Prop) : Prop :=
  p.tables.exec = Jvm.exec ∧ c.code = cL_law ∧ CallFix p m c cL_law 10 s ([.ref b] : List Value).toArray lw_tbl RL ∧ GK D cy s ∧ FX t A s s.heap ∧ va_X b L xs s s.heap ∧ b < s.heap.size ∧ ¬ A b ∧ (∀ q, s.heap.size ≤ q → A q) ∧ l.stackTraces = false ∧ s.vm.findClass RL = some m.cls
set_option maxRecDepth 20000 in
theorem w_la {p : Program} {l : Launch} {e : Env} {s : State} {m : MethodId} {below : List Frame} {meth : Method} {c : Code} {b L : Nat} {xs : Nat → Int32} {D : va_G} {cy : Nat → ClassId} {t : FxA} {A : Nat → Prop} {Q : State → Prop} {xa sa sb tr na : Nat → Nat} {ka : Nat → Nat → Nat} {xb sc sd ts nb : Nat → Nat} {kb : Nat → Nat → Nat} (C0 : LC p l s m meth c b L xs D cy t A) (hL : L ≤ 260) {i : Nat} (hi : i < 30) {z1 z2 : SpT} {T : Int} (sm : SIM T z1 z2) (g1 : GS T z1) (g2 : GS T z2) (h0 : 100000 ≤ T) (h1 : T ≤ 800000) {cells slots : Nat} (hc : cells + 440 ≤ 657255) (hs : slots + 2640 ≤ 7129858) {H : Heap} {locs : List Loc} {ls : Array Slot} (hl : lv_has ls 10 [(4, .int (nI i)), (3, .int (1 : Int32)), (2, .ref (xb 0)), (1, .ref (xa 0)), (0, .ref b)]) (hP : va_P D vwCl (wSp cy xa sa sb tr na ka z1 ++ wSp cy xb sc sd ts nb kb z2) H) (hD : va_D A (wSp cy xa sa sb tr na ka z1 ++ wSp cy xb sc sd ts nb kb z2)) (hS : va_S A s.heap H locs) (kk : ∀ (ls : Array Slot) (H : Heap) (locs : List Loc) (z1 z2 : SpT) (x y : Int32), 0 ≤ x.toInt → 0 ≤ y.toInt → SIM (T + 700) z1 z2 → GS (T + 700) z1 → GS (T + 700) z2 → lv_has ls 10 [(6, .int y), (5, .int x), (4, .int (nI i)), (3, .int (1 : Int32)), (2, .ref (xb 0)), (1, .ref (xa 0)), (0, .ref b)] → va_P D vwCl (wSp cy xa sa sb tr na ka z1 ++ wSp cy xb sc sd ts nb kb z2) H → va_D A (wSp cy xa sa sb tr na ka z1 ++ wSp cy xb sc sd ts nb kb z2) → va_S A s.heap H locs → Wx p l e room_1 s m #[Value.ref b] below meth c H locs (cells + 440) (slots + 2640) Q (F0 m 107 ls [])) : Wx p l e room_1 s m #[Value.ref b] below meth c H locs cells slots Q (F0 m 21 ls []) := by
  obtain ⟨hx, hb, hCF, hG, hF, hX, hbl, hbA, hA, hl0, hown⟩ := C0
  have hts := hCF.2.2.2.2
  have ei := nI_n (i := i) (by omega)
  have e2 : ((2 : Int32) * nI i).toInt = 2 * i := by rw [i32_mul (by rw [ii2]; omega) (by rw [ii2]; omega), ii2, ei.1]
  have e3 : (((2 : Int32) * nI i) + 1).toInt = 2 * i + 1 := by rw [i32_add (by rw [i32_1]; omega) (by rw [i32_1]; omega), i32_1, e2]
  refine lv_iload hx hb dL_law_21 (lv_at hl 0 rfl) ?_
  refine lv_bipush (v := (30 : Int32)) hx hb dL_law_23 (by decide) ?_
  refine lv_icmp_ge (tgt := 242) hx hb dL_law_25 (by decide) (fun q => absurd q (by rw [i32_le, ei.1, show (30 : Int32).toInt = 30 by decide]; omega)) (fun _ => ?_)
  refine lv_iload_n hx hb dL_law_28 rfl (lv_at hl 1 rfl) ?_
  refine lv_if_eq (tgt := 242) hx hb dL_law_29 (by decide) (fun q => absurd q (by decide)) (fun _ => ?_)
  refine lv_aload_n hx hb dL_law_32 rfl (lv_at hl 4 rfl) ?_
  refine lv_iconst (v := (2 : Int32)) hx hb dL_law_33 (by decide) ?_
  refine lv_iload hx hb dL_law_34 (lv_at hl 0 rfl) ?_
  refine lv_imul hx hb dL_law_36 ?_
  refine cxS (A := A) (As := [.ref b, .int ((2 : Int32) * (nI i))]) (rest := []) (v := (cellV L xs ((2 : Int32) * (nI i)))) (c_L_cell l b L xs hL (k := ((2 : Int32) * (nI i))) (by omega)) hCF gw_L_cell.lw rfl hq_L_cell ⟨rfl, rfl, Nat.le_of_ble_eq_true rfl, Nat.le_of_ble_eq_true rfl⟩ hX hbl hbA hS rfl hl.1 rfl (Nat.le_of_ble_eq_true rfl) dL_law_37 ⟨by show _ ≤ 657255; omega, by show _ ≤ 7129858; omega⟩ ?_
  refine lv_istore (lv' := [(5, .int (cellV L xs ((2 : Int32) * (nI i)))), (4, .int (nI i)), (3, .int (1 : Int32)), (2, .ref (xb 0)), (1, .ref (xa 0)), (0, .ref b)]) hx hb dL_law_40 hl (by decide) rfl (fun ls hl => ?_)
  refine lv_aload_n hx hb dL_law_42 rfl (lv_at hl 5 rfl) ?_
  refine lv_iconst (v := (2 : Int32)) hx hb dL_law_43 (by decide) ?_
  refine lv_iload hx hb dL_law_44 (lv_at hl 1 rfl) ?_
  refine lv_imul hx hb dL_law_46 ?_
  refine lv_iconst (v := (1 : Int32)) hx hb dL_law_47 (by decide) ?_
  refine lv_iadd hx hb dL_law_48 ?_
  refine cxS (A := A) (As := [.ref b, .int (((2 : Int32) * (nI i)) + (1 : Int32))]) (rest := []) (v := (cellV L xs (((2 : Int32) * (nI i)) + (1 : Int32)))) (c_L_cell l b L xs hL (k := (((2 : Int32) * (nI i)) + (1 : Int32))) (by omega)) hCF gw_L_cell.lw rfl hq_L_cell ⟨rfl, rfl, Nat.le_of_ble_eq_true rfl, Nat.le_of_ble_eq_true rfl⟩ hX hbl hbA hS rfl hl.1 rfl (Nat.le_of_ble_eq_true rfl) dL_law_49 ⟨by show _ ≤ 657255; omega, by show _ ≤ 7129858; omega⟩ ?_
  refine lv_istore (lv' := [(6, .int (cellV L xs (((2 : Int32) * (nI i)) + (1 : Int32)))), (5, .int (cellV L xs ((2 : Int32) * (nI i)))), (4, .int (nI i)), (3, .int (1 : Int32)), (2, .ref (xb 0)), (1, .ref (xa 0)), (0, .ref b)]) hx hb dL_law_52 hl (by decide) rfl (fun ls hl => ?_)
  have hx0 := cellV_nn L xs ((2 : Int32) * (nI i))
  have hy0 := cellV_nn L xs (((2 : Int32) * (nI i)) + (1 : Int32))
  generalize cellV L xs ((2 : Int32) * (nI i)) = x at hl hx0
  generalize cellV L xs (((2 : Int32) * (nI i)) + (1 : Int32)) = y at hl hy0
  have o1 := sm.l h0 (by omega)
  refine lv_aload_n hx hb dL_law_54 rfl (lv_at hl 5 rfl) ?_
  refine lv_iload hx hb dL_law_55 (lv_at hl 1 rfl) ?_
  refine hgS (A0 := A) (As := [.ref (xa 0), .int x]) (rest := []) (W1 := (wSp cy xa sa sb tr na ka z1 ++ wSp cy xb sc sd ts nb kb z2)) (w' := (fun u => (wSp cy xa sa sb tr na ka u ++ wSp cy xb sc sd ts nb kb z2))) (P9 := (fun r (u : SpT) => r = 1 ∧ (OKz u ∧ VIS z1 u))) ((c_L_refuses l hl0 D cy t xa sa sb tr na ka o1 g1.1 hx0).ctx (List.Perm.refl _) (fun _ => List.Perm.refl _)) hCF gw_L_refuses.lw rfl hq_L_refuses ⟨Nat.le_of_ble_eq_true rfl, Nat.le_of_ble_eq_true rfl⟩ hG hF hP hD hS hA (fun _ => h_2) rfl hl.1 rfl (Nat.le_of_ble_eq_true rfl) dL_law_57 ⟨by show _ ≤ 657255; omega, by show _ ≤ 7129858; omega⟩ (fun v y1 H locs hv hP hD hS => ?_)
  obtain ⟨rfl, hv⟩ := hv
  refine lv_if_eq (tgt := 105) hx hb dL_law_60 (by decide) (fun q => absurd q (by decide)) (fun _ => ?_)
  have sm := sm.vis hv.2 VIS.rf
  have g1 := hv.2.gs g1
  have o1 := hv.1
  clear hv
  have sa9 := sim_actP (x := x) (y := y) sm h0 (by omega)
  have ga1 := gs_actP (x := x) (y := y) o1 g1 h0 (by omega)
  have ga2 := gs_actP (x := x) (y := y) (sm.r h0 (by omega)) g2 h0 (by omega)
  obtain ⟨mo, pa9, pb9⟩ := sm
  refine lv_aload_n hx hb dL_law_63 rfl (lv_at hl 5 rfl) ?_
  refine lv_iload hx hb dL_law_64 (lv_at hl 1 rfl) ?_
  refine lv_iload hx hb dL_law_66 (lv_at hl 0 rfl) ?_
  refine hwS (A0 := A) (As := [.ref (xa 0), .int x, .int y]) (rest := []) (W1 := (wSp cy xa sa sb tr na ka y1 ++ wSp cy xb sc sd ts nb kb z2)) (W2 := (wSp cy xa sa sb tr na ka (actP y1 x y).2 ++ wSp cy xb sc sd ts nb kb z2)) ((c_L_act l hl0 D cy t xa sa sb tr na ka pa9 h0 (by omega) (x := x) (y := y) hx0).ctx (List.Perm.refl _) (List.Perm.refl _)) hCF gw_L_act.lw rfl hq_L_act ⟨Nat.le_of_ble_eq_true rfl, Nat.le_of_ble_eq_true rfl⟩ hG hF hP hD hS hA h_2 rfl hl.1 rfl (Nat.le_of_ble_eq_true rfl) dL_law_68 ⟨by show _ ≤ 657255; omega, by show _ ≤ 7129858; omega⟩ (fun H locs hP hD hS => ?_)
  refine lv_aload_n hx hb dL_law_71 rfl (lv_at hl 4 rfl) ?_
  refine lv_iload hx hb dL_law_72 (lv_at hl 1 rfl) ?_
  refine lv_iload hx hb dL_law_74 (lv_at hl 0 rfl) ?_
  refine hwS (A0 := A) (As := [.ref (xb 0), .int x, .int y]) (rest := [.int ((actP y1 x y).1)]) (W1 := (wSp cy xa sa sb tr na ka (actP y1 x y).2 ++ wSp cy xb sc sd ts nb kb z2)) (W2 := (wSp cy xa sa sb tr na ka (actP y1 x y).2 ++ wSp cy xb sc sd ts nb kb (actP z2 x y).2)) ((c_L_act l hl0 D cy t xb sc sd ts nb kb pb9 h0 (by omega) (x := x) (y := y) hx0).ctx List.perm_append_comm List.perm_append_comm) hCF gw_L_act.lw rfl hq_L_act ⟨Nat.le_of_ble_eq_true rfl, Nat.le_of_ble_eq_true rfl⟩ hG hF hP hD hS hA h_2 rfl hl.1 rfl (Nat.le_of_ble_eq_true rfl) dL_law_76 ⟨by show _ ≤ 657255; omega, by show _ ≤ 7129858; omega⟩ (fun H locs hP hD hS => ?_)
  refine lv_icmp_ne (tgt := 105) hx hb dL_law_79 (by decide) (fun q => absurd sa9.1 q) (fun _ => ?_)
  have sm := sa9.2
  clear sa9 pa9 pb9 o1 g1 g2
  generalize (actP y1 x y).2 = u1 at *
  generalize (actP z2 x y).2 = u2 at *
  have o1 := sm.l (by omega) (by omega)
  refine lv_aload_n hx hb dL_law_82 rfl (lv_at hl 5 rfl) ?_
  refine lv_iload hx hb dL_law_83 (lv_at hl 0 rfl) ?_
  refine hgS (A0 := A) (As := [.ref (xa 0), .int y]) (rest := []) (W1 := (wSp cy xa sa sb tr na ka u1 ++ wSp cy xb sc sd ts nb kb u2)) (w' := (fun u => (wSp cy xa sa sb tr na ka u ++ wSp cy xb sc sd ts nb kb u2))) (P9 := (fun r (u : SpT) => r = 1 ∧ (OKz u ∧ VIS u1 u))) ((c_L_refuses l hl0 D cy t xa sa sb tr na ka o1 ga1.1 hy0).ctx (List.Perm.refl _) (fun _ => List.Perm.refl _)) hCF gw_L_refuses.lw rfl hq_L_refuses ⟨Nat.le_of_ble_eq_true rfl, Nat.le_of_ble_eq_true rfl⟩ hG hF hP hD hS hA (fun _ => h_2) rfl hl.1 rfl (Nat.le_of_ble_eq_true rfl) dL_law_85 ⟨by show _ ≤ 657255; omega, by show _ ≤ 7129858; omega⟩ (fun v v1 H locs hv hP hD hS => ?_)
  obtain ⟨rfl, hv⟩ := hv
  refine lv_if_eq (tgt := 105) hx hb dL_law_88 (by decide) (fun q => absurd q (by decide)) (fun _ => ?_)
  have sm := sm.vis hv.2 VIS.rf
  have g1 := hv.2.gs ga1
  clear hv
  refine lv_aload_n hx hb dL_law_91 rfl (lv_at hl 5 rfl) ?_
  refine lv_aload_n hx hb dL_law_92 rfl (lv_at hl 4 rfl) ?_
  refine lv_iload hx hb dL_law_93 (lv_at hl 1 rfl) ?_
  refine hgS (A0 := A) (As := [.ref (xa 0), .ref (xb 0), .int x]) (rest := []) (W1 := (wSp cy xa sa sb tr na ka v1 ++ wSp cy xb sc sd ts nb kb u2)) (w' := (fun (u : SpT × SpT) => (wSp cy xa sa sb tr na ka u.1 ++ wSp cy xb sc sd ts nb kb u.2))) (P9 := (fun r (u : SpT × SpT) => r = 1 ∧ (OKz u.1 ∧ VIS v1 u.1) ∧ (OKz u.2 ∧ VIS u2 u.2))) (c_L_alike l hl0 D cy t xa sa sb tr na ka xb sc sd ts nb kb sm (by omega) (by omega)) hCF gw_L_alike.lw rfl hq_L_alike ⟨Nat.le_of_ble_eq_true rfl, Nat.le_of_ble_eq_true rfl⟩ hG hF hP hD hS hA (fun _ => h_2) rfl hl.1 rfl (Nat.le_of_ble_eq_true rfl) dL_law_95 ⟨by show _ ≤ 657255; omega, by show _ ≤ 7129858; omega⟩ (fun v uu H locs hv hP hD hS => ?_)
  obtain ⟨rfl, hv⟩ := hv
  refine lv_if_eq (tgt := 105) hx hb dL_law_98 (by decide) (fun q => absurd q (by decide)) (fun _ => ?_)
  have sm := sm.vis hv.1.2 hv.2.2
  have g1 := hv.1.2.gs g1
  have g2 := hv.2.2.gs ga2
  refine lv_iconst (v := (1 : Int32)) hx hb dL_law_101 (by decide) ?_
  refine lv_goto (tgt := 106) hx hb dL_law_102 (by decide) ?_
  refine lv_istore_n (lv' := [(3, .int (1 : Int32)), (6, .int y), (5, .int x), (4, .int (nI i)), (2, .ref (xb 0)), (1, .ref (xa 0)), (0, .ref b)]) hx hb dL_law_106 rfl hl (by decide) rfl (fun ls hl => ?_)
  have hl : lv_has ls 10 [(6, .int y), (5, .int x), (4, .int (nI i)), (3, .int (1 : Int32)), (2, .ref (xb 0)), (1, .ref (xa 0)), (0, .ref b)] := lv_sub hl [1, 2, 3, 0, 4, 5, 6] rfl
  refine W.widen (k := cells + 440) (n := slots + 2640) (by omega) (by omega) ?_
  exact kk _ _ _ uu.1 uu.2 x y hx0 hy0 sm g1 g2 hl hP hD hS
