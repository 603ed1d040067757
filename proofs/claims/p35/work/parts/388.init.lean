def st00 : StT := (un0, co0, (fun _ => 0), (fun _ => 0), fxF, 0, 0, 0, 0)
def at_X5 (D : va_G) (cy : Nat → ClassId) (a : Nat) (A : Nat → Prop) (H : Heap) : Prop := ∃ ad : Nat → Nat, ad 0 = a ∧ va_P D vwCl (wSt cy ad st00) H ∧ va_D A (wSt cy ad st00)
theorem hd_X5_init : yX5_init.cls ≠ "java/lang/invoke/MethodHandle" ∧ yX5_init.cls ≠ "java/lang/invoke/VarHandle" ∧ (parseMethodDescriptor yX5_init.desc).map (fun d => d.parameters.length) = some 0 := by decide +kernel
set_option maxHeartbeats 2000000 in
set_option maxRecDepth 20000 in
theorem c_X5_init (l : Launch) (D : va_G) (cy : Nat → ClassId) (t : FxA) (a : Nat) : CN l D cy t yX5_init wsX5_init ({ frames := 2, cells := 14, slots := 388, locals := 60 } : Room) [(a, .inr (3, [.null, .null, .null, .null, .null, .int 0, .int 0, .int 0, .int 0]))] [.ref a] (at_X5 D cy a) := by
  refine CN.body (by decide) rfl (Nat.le_of_ble_eq_true rfl) ?_
  intro p e s m below meth c hx hb hml hr hts hown hlocks hnm hP hG ls hl A hD hA hS hF
  have hl : lv_has ls 1 [(0, .ref a)] := hl
  have hCF : CallFix p m c cX5_init 1 s ([.ref a] : List Value).toArray wsX5_init RX5 := ⟨hx, hb, hml, hown, hts⟩
  have in_X5 : ∀ w ∈ u_ws RX5 TX5 9, w ∈ wsX5_init := fun _ h => List.mem_cons_of_mem _ (List.mem_append_left _ (List.mem_append_left _ (List.mem_append_right _ h)))
  have in_X7 : ∀ w ∈ u_ws RX7 TX7 6, w ∈ wsX5_init := fun _ h => List.mem_cons_of_mem _ (List.mem_append_left _ (List.mem_append_left _ (List.mem_append_left _ (List.mem_append_right _ h))))
  have in_X0 : ∀ w ∈ u_ws RX0 TX0 3, w ∈ wsX5_init := fun _ h => List.mem_cons_of_mem _ (List.mem_append_left _ (List.mem_append_right _ h))
  have in_X1 : ∀ w ∈ u_ws RX1 TX1 1, w ∈ wsX5_init := fun _ h => List.mem_cons_of_mem _ (List.mem_append_right _ h)
  have ko := hts (Cond.methodLink RX5 3 objectInit) (List.mem_of_getElem? (i := 1) rfl)
  have ki := hts (Cond.instanceMethod objectInit) (List.mem_of_getElem? (i := 2) rfl)
  have kc := hts (Cond.code objectInit ⟨#[0xb1]⟩ 1 none) (List.mem_of_getElem? (i := 3) rfl)
  have ka := hts (Cond.arrayClass .int) (List.mem_of_getElem? (i := 16) rfl)
  refine lv_aload_n hx hb dX5_init_0 rfl (lv_at hl 0 rfl) ?_
  refine W.objInit hx hb hown ko ki kc rfl (by rw [hml]; exact hl.1) rfl dX5_init_1 (Nat.le_of_ble_eq_true rfl) (Nat.le_of_ble_eq_true rfl) ?_
  refine W.eq (g2 := F0 m 4 ls []) rfl ?_
  have kl_X7 := hts (Cond.classLink RX5 9 RX7) (List.mem_of_getElem? (i := 4) rfl)
  have kn_X7 := hts (Cond.instantiable RX7 6) (List.mem_of_getElem? (i := 5) rfl)
  have kz_X7 := hts (Cond.initialized RX7) (List.mem_of_getElem? (i := 6) rfl)
  have km_X7 := hts (Cond.instanceMethod yX7_init) (List.mem_of_getElem? (i := 23) rfl)
  have kg_X7 := hts (Cond.fieldLink RX5 12 "SparePool$State" "units" "LSparePool$Units;") (List.mem_of_getElem? (i := 7) rfl)
  refine lv_aload_n hx hb dX5_init_4 rfl (lv_at hl 0 rfl) ?_
  refine va_new (ci := 5) (fs := [.null, .null, .null, .null, .null, .int 0]) (C := RX7) (T := TX7) (N := 6) hx hb hts in_X7 tyX7 tyX7_ok hown kl_X7 kn_X7 kz_X7 hG.1 hP hD hS hA rfl (fun j hj => by rcases (show j = 0 ∨ j = 1 ∨ j = 2 ∨ j = 3 ∨ j = 4 ∨ j = 5 by omega) with rfl | rfl | rfl | rfl | rfl | rfl <;> rfl) (Nat.le_of_ble_eq_true rfl) (Nat.le_of_ble_eq_true rfl) dX5_init_5 (fun bX7 H hP hD hS => ?_)
  have hP : va_P D vwCl (((a, .inr (3, [.null, .null, .null, .null, .null, .int 0, .int 0, .int 0, .int 0])) :: ([])) ++ [(bX7, .inr (5, [.null, .null, .null, .null, .null, .int 0]))]) H := hP
  have hD : va_D A (((a, .inr (3, [.null, .null, .null, .null, .null, .int 0, .int 0, .int 0, .int 0])) :: ([])) ++ [(bX7, .inr (5, [.null, .null, .null, .null, .null, .int 0]))]) := hD
  refine W.widen (k := 1) (n := 6) (Nat.le_of_ble_eq_true rfl) (Nat.le_of_ble_eq_true rfl) ?_
  refine lv_dup hx hb dX5_init_8 rfl ?_
  refine cnN (wr := ((a, .inr (3, [.null, .null, .null, .null, .null, .int 0, .int 0, .int 0, .int 0])) :: ([]))) (wc := [(bX7, .inr (5, [.null, .null, .null, .null, .null, .int 0]))]) (rest := [.ref bX7, .ref a]) (c_X7_init l D cy t bX7) hCF gX5_init_X7_init_n11 (nw_X5_11 hG.2) kz_X7 km_X7 rfl rfl hd_X7_init ⟨Nat.le_of_ble_eq_true rfl, Nat.le_of_ble_eq_true rfl⟩ hG hF hP hD hS hA hl.1 rfl (Nat.le_of_ble_eq_true rfl) dX5_init_9 ⟨Nat.le_of_ble_eq_true rfl, Nat.le_of_ble_eq_true rfl⟩ (fun H locs _ _ hS hj hB => ?_)
  obtain ⟨x70, x71, x72, x73, x74, hP1, hD1⟩ := hB
  obtain ⟨hP, hD⟩ := hj _ hP1 hD1
  clear hj hP1 hD1
  refine W.widen (k := 6) (n := 86) (Nat.le_of_ble_eq_true rfl) (Nat.le_of_ble_eq_true rfl) ?_
  have hP : va_P D vwCl ((a, .inr (3, [.null, .null, .null, .null, .null, .int 0, .int 0, .int 0, .int 0])) :: (wUn cy bX7 x70 x71 x72 x73 x74 un0)) H := va_P_eq hP (by simp only [List.append_assoc, List.cons_append, List.nil_append])
  have hD : va_D A ((a, .inr (3, [.null, .null, .null, .null, .null, .int 0, .int 0, .int 0, .int 0])) :: (wUn cy bX7 x70 x71 x72 x73 x74 un0)) := va_D_eq hD (by simp only [List.append_assoc, List.cons_append, List.nil_append])
  refine va_putF (D := D) (ci := 3) (v := .ref bX7) (ty := .object RX7) (C := RX5) (T := TX5) (N := 9) hx hb hts in_X5 tyX5 tyX5_ok nmX5 hown hG.1 hP hD hS 0 rfl rfl 0 (by decide) kg_X7 (fun _ h9 => h9) rfl hnm rfl (by decide +kernel) rfl rfl (Nat.le_of_ble_eq_true rfl) dX5_init_12 (fun H locs hP hD hS => ?_)
  have hP : va_P D vwCl ((a, .inr (3, [.ref bX7, .null, .null, .null, .null, .int 0, .int 0, .int 0, .int 0])) :: (wUn cy bX7 x70 x71 x72 x73 x74 un0)) H := hP
  have hD : va_D A ((a, .inr (3, [.ref bX7, .null, .null, .null, .null, .int 0, .int 0, .int 0, .int 0])) :: (wUn cy bX7 x70 x71 x72 x73 x74 un0)) := hD
  have kl_X0 := hts (Cond.classLink RX5 18 RX0) (List.mem_of_getElem? (i := 8) rfl)
  have kn_X0 := hts (Cond.instantiable RX0 3) (List.mem_of_getElem? (i := 9) rfl)
  have kz_X0 := hts (Cond.initialized RX0) (List.mem_of_getElem? (i := 10) rfl)
  have km_X0 := hts (Cond.instanceMethod yX0_init) (List.mem_of_getElem? (i := 31) rfl)
  have kg_X0 := hts (Cond.fieldLink RX5 21 "SparePool$State" "cores" "LSparePool$Cores;") (List.mem_of_getElem? (i := 11) rfl)
  refine lv_aload_n hx hb dX5_init_15 rfl (lv_at hl 0 rfl) ?_
  refine va_new (ci := 0) (fs := [.null, .null, .null]) (C := RX0) (T := TX0) (N := 3) hx hb hts in_X0 tyX0 tyX0_ok hown kl_X0 kn_X0 kz_X0 hG.1 hP hD hS hA rfl (fun j hj => by rcases (show j = 0 ∨ j = 1 ∨ j = 2 by omega) with rfl | rfl | rfl <;> rfl) (Nat.le_of_ble_eq_true rfl) (Nat.le_of_ble_eq_true rfl) dX5_init_16 (fun bX0 H hP hD hS => ?_)
  have hP : va_P D vwCl (((a, .inr (3, [.ref bX7, .null, .null, .null, .null, .int 0, .int 0, .int 0, .int 0])) :: (wUn cy bX7 x70 x71 x72 x73 x74 un0)) ++ [(bX0, .inr (0, [.null, .null, .null]))]) H := hP
  have hD : va_D A (((a, .inr (3, [.ref bX7, .null, .null, .null, .null, .int 0, .int 0, .int 0, .int 0])) :: (wUn cy bX7 x70 x71 x72 x73 x74 un0)) ++ [(bX0, .inr (0, [.null, .null, .null]))]) := hD
  refine W.widen (k := 7) (n := 89) (Nat.le_of_ble_eq_true rfl) (Nat.le_of_ble_eq_true rfl) ?_
  refine lv_dup hx hb dX5_init_19 rfl ?_
  refine cnN (wr := ((a, .inr (3, [.ref bX7, .null, .null, .null, .null, .int 0, .int 0, .int 0, .int 0])) :: (wUn cy bX7 x70 x71 x72 x73 x74 un0))) (wc := [(bX0, .inr (0, [.null, .null, .null]))]) (rest := [.ref bX0, .ref a]) (c_X0_init l D cy t bX0) hCF gX5_init_X0_init_n20 (nw_X5_20 hG.2) kz_X0 km_X0 rfl rfl hd_X0_init ⟨Nat.le_of_ble_eq_true rfl, Nat.le_of_ble_eq_true rfl⟩ hG hF hP hD hS hA hl.1 rfl (Nat.le_of_ble_eq_true rfl) dX5_init_20 ⟨Nat.le_of_ble_eq_true rfl, Nat.le_of_ble_eq_true rfl⟩ (fun H locs _ _ hS hj hB => ?_)
  obtain ⟨x00, x01, x02, hP1, hD1⟩ := hB
  obtain ⟨hP, hD⟩ := hj _ hP1 hD1
  clear hj hP1 hD1
  refine W.widen (k := 10) (n := 154) (Nat.le_of_ble_eq_true rfl) (Nat.le_of_ble_eq_true rfl) ?_
  have hP : va_P D vwCl ((a, .inr (3, [.ref bX7, .null, .null, .null, .null, .int 0, .int 0, .int 0, .int 0])) :: (wUn cy bX7 x70 x71 x72 x73 x74 un0 ++ wCo cy bX0 x00 x01 x02 co0)) H := va_P_eq hP (by simp only [List.append_assoc, List.cons_append, List.nil_append])
  have hD : va_D A ((a, .inr (3, [.ref bX7, .null, .null, .null, .null, .int 0, .int 0, .int 0, .int 0])) :: (wUn cy bX7 x70 x71 x72 x73 x74 un0 ++ wCo cy bX0 x00 x01 x02 co0)) := va_D_eq hD (by simp only [List.append_assoc, List.cons_append, List.nil_append])
  refine va_putF (D := D) (ci := 3) (v := .ref bX0) (ty := .object RX0) (C := RX5) (T := TX5) (N := 9) hx hb hts in_X5 tyX5 tyX5_ok nmX5 hown hG.1 hP hD hS 0 rfl rfl 1 (by decide) kg_X0 (fun _ h9 => h9) rfl hnm rfl (by decide +kernel) rfl rfl (Nat.le_of_ble_eq_true rfl) dX5_init_23 (fun H locs hP hD hS => ?_)
  have hP : va_P D vwCl ((a, .inr (3, [.ref bX7, .ref bX0, .null, .null, .null, .int 0, .int 0, .int 0, .int 0])) :: (wUn cy bX7 x70 x71 x72 x73 x74 un0 ++ wCo cy bX0 x00 x01 x02 co0)) H := hP
  have hD : va_D A ((a, .inr (3, [.ref bX7, .ref bX0, .null, .null, .null, .int 0, .int 0, .int 0, .int 0])) :: (wUn cy bX7 x70 x71 x72 x73 x74 un0 ++ wCo cy bX0 x00 x01 x02 co0)) := hD
  have kl_X1 := hts (Cond.classLink RX5 25 RX1) (List.mem_of_getElem? (i := 12) rfl)
  have kn_X1 := hts (Cond.instantiable RX1 1) (List.mem_of_getElem? (i := 13) rfl)
  have kz_X1 := hts (Cond.initialized RX1) (List.mem_of_getElem? (i := 14) rfl)
  have km_X1 := hts (Cond.instanceMethod yX1_init) (List.mem_of_getElem? (i := 37) rfl)
  have kg_X1 := hts (Cond.fieldLink RX5 28 "SparePool$State" "debts" "LSparePool$Debts;") (List.mem_of_getElem? (i := 15) rfl)
  refine lv_aload_n hx hb dX5_init_26 rfl (lv_at hl 0 rfl) ?_
  refine va_new (ci := 1) (fs := [.null]) (C := RX1) (T := TX1) (N := 1) hx hb hts in_X1 tyX1 tyX1_ok hown kl_X1 kn_X1 kz_X1 hG.1 hP hD hS hA rfl (fun j hj => by rcases (show j = 0 by omega) with rfl <;> rfl) (Nat.le_of_ble_eq_true rfl) (Nat.le_of_ble_eq_true rfl) dX5_init_27 (fun bX1 H hP hD hS => ?_)
  have hP : va_P D vwCl (((a, .inr (3, [.ref bX7, .ref bX0, .null, .null, .null, .int 0, .int 0, .int 0, .int 0])) :: (wUn cy bX7 x70 x71 x72 x73 x74 un0 ++ wCo cy bX0 x00 x01 x02 co0)) ++ [(bX1, .inr (1, [.null]))]) H := hP
  have hD : va_D A (((a, .inr (3, [.ref bX7, .ref bX0, .null, .null, .null, .int 0, .int 0, .int 0, .int 0])) :: (wUn cy bX7 x70 x71 x72 x73 x74 un0 ++ wCo cy bX0 x00 x01 x02 co0)) ++ [(bX1, .inr (1, [.null]))]) := hD
  refine W.widen (k := 11) (n := 155) (Nat.le_of_ble_eq_true rfl) (Nat.le_of_ble_eq_true rfl) ?_
  refine lv_dup hx hb dX5_init_30 rfl ?_
  refine cnN (wr := ((a, .inr (3, [.ref bX7, .ref bX0, .null, .null, .null, .int 0, .int 0, .int 0, .int 0])) :: (wUn cy bX7 x70 x71 x72 x73 x74 un0 ++ wCo cy bX0 x00 x01 x02 co0))) (wc := [(bX1, .inr (1, [.null]))]) (rest := [.ref bX1, .ref a]) (c_X1_init l D cy t bX1) hCF gX5_init_X1_init_n27 (nw_X5_27 hG.2) kz_X1 km_X1 rfl rfl hd_X1_init ⟨Nat.le_of_ble_eq_true rfl, Nat.le_of_ble_eq_true rfl⟩ hG hF hP hD hS hA hl.1 rfl (Nat.le_of_ble_eq_true rfl) dX5_init_31 ⟨Nat.le_of_ble_eq_true rfl, Nat.le_of_ble_eq_true rfl⟩ (fun H locs _ _ hS hj hB => ?_)
  obtain ⟨x10, hP1, hD1⟩ := hB
  obtain ⟨hP, hD⟩ := hj _ hP1 hD1
  clear hj hP1 hD1
  refine W.widen (k := 12) (n := 380) (Nat.le_of_ble_eq_true rfl) (Nat.le_of_ble_eq_true rfl) ?_
  have hP : va_P D vwCl ((a, .inr (3, [.ref bX7, .ref bX0, .null, .null, .null, .int 0, .int 0, .int 0, .int 0])) :: (wUn cy bX7 x70 x71 x72 x73 x74 un0 ++ wCo cy bX0 x00 x01 x02 co0 ++ wDe cy bX1 x10 (fun _ => (0 : Int32)))) H := va_P_eq hP (by simp only [List.append_assoc, List.cons_append, List.nil_append])
  have hD : va_D A ((a, .inr (3, [.ref bX7, .ref bX0, .null, .null, .null, .int 0, .int 0, .int 0, .int 0])) :: (wUn cy bX7 x70 x71 x72 x73 x74 un0 ++ wCo cy bX0 x00 x01 x02 co0 ++ wDe cy bX1 x10 (fun _ => (0 : Int32)))) := va_D_eq hD (by simp only [List.append_assoc, List.cons_append, List.nil_append])
  refine va_putF (D := D) (ci := 3) (v := .ref bX1) (ty := .object RX1) (C := RX5) (T := TX5) (N := 9) hx hb hts in_X5 tyX5 tyX5_ok nmX5 hown hG.1 hP hD hS 0 rfl rfl 2 (by decide) kg_X1 (fun _ h9 => h9) rfl hnm rfl (by decide +kernel) rfl rfl (Nat.le_of_ble_eq_true rfl) dX5_init_34 (fun H locs hP hD hS => ?_)
  have hP : va_P D vwCl ((a, .inr (3, [.ref bX7, .ref bX0, .ref bX1, .null, .null, .int 0, .int 0, .int 0, .int 0])) :: (wUn cy bX7 x70 x71 x72 x73 x74 un0 ++ wCo cy bX0 x00 x01 x02 co0 ++ wDe cy bX1 x10 (fun _ => (0 : Int32)))) H := hP
  have hD : va_D A ((a, .inr (3, [.ref bX7, .ref bX0, .ref bX1, .null, .null, .int 0, .int 0, .int 0, .int 0])) :: (wUn cy bX7 x70 x71 x72 x73 x74 un0 ++ wCo cy bX0 x00 x01 x02 co0 ++ wDe cy bX1 x10 (fun _ => (0 : Int32)))) := hD
  have kg_account := hts (Cond.fieldLink RX5 32 "SparePool$State" "account" "[I") (List.mem_of_getElem? (i := 17) rfl)
  refine lv_aload_n hx hb dX5_init_37 rfl (lv_at hl 0 rfl) ?_
  refine lv_iconst (v := (5 : Int32)) hx hb dX5_init_38 (by decide) ?_
  refine nw_arr (atype := .int) (ty := .int) (a0 := (5, .inl (fun _ => 0))) hx hb ka rfl (fun _ h9 => h9) 0 rfl hG.1 hP hD hS hA (fun _ => rfl) (by decide) (by decide) (Nat.le_of_ble_eq_true rfl) (Nat.le_of_ble_eq_true rfl) (Nat.le_of_ble_eq_true rfl) dX5_init_39 (fun q13 H hP hD hS => ?_)
  refine W.widen (k := 13) (n := 385) (Nat.le_of_ble_eq_true rfl) (Nat.le_of_ble_eq_true rfl) ?_
  have hP : va_P D vwCl ((a, .inr (3, [.ref bX7, .ref bX0, .ref bX1, .null, .null, .int 0, .int 0, .int 0, .int 0])) :: (wUn cy bX7 x70 x71 x72 x73 x74 un0 ++ wCo cy bX0 x00 x01 x02 co0 ++ wDe cy bX1 x10 (fun _ => (0 : Int32)) ++ [(q13, .inl (cy 0, 5, .inl (fun _ => 0)))])) H := va_P_eq hP (by simp only [List.append_assoc, List.cons_append, List.nil_append])
  have hD : va_D A ((a, .inr (3, [.ref bX7, .ref bX0, .ref bX1, .null, .null, .int 0, .int 0, .int 0, .int 0])) :: (wUn cy bX7 x70 x71 x72 x73 x74 un0 ++ wCo cy bX0 x00 x01 x02 co0 ++ wDe cy bX1 x10 (fun _ => (0 : Int32)) ++ [(q13, .inl (cy 0, 5, .inl (fun _ => 0)))])) := va_D_eq hD (by simp only [List.append_assoc, List.cons_append, List.nil_append])
  refine va_putF (D := D) (ci := 3) (v := .ref q13) (ty := .array .int) (C := RX5) (T := TX5) (N := 9) hx hb hts in_X5 tyX5 tyX5_ok nmX5 hown hG.1 hP hD hS 0 rfl rfl 3 (by decide) kg_account (fun _ h9 => h9) rfl hnm rfl (by decide +kernel) rfl rfl (Nat.le_of_ble_eq_true rfl) dX5_init_41 (fun H locs hP hD hS => ?_)
  have hP : va_P D vwCl ((a, .inr (3, [.ref bX7, .ref bX0, .ref bX1, .ref q13, .null, .int 0, .int 0, .int 0, .int 0])) :: (wUn cy bX7 x70 x71 x72 x73 x74 un0 ++ wCo cy bX0 x00 x01 x02 co0 ++ wDe cy bX1 x10 (fun _ => (0 : Int32)) ++ [(q13, .inl (cy 0, 5, .inl (fun _ => 0)))])) H := hP
  have hD : va_D A ((a, .inr (3, [.ref bX7, .ref bX0, .ref bX1, .ref q13, .null, .int 0, .int 0, .int 0, .int 0])) :: (wUn cy bX7 x70 x71 x72 x73 x74 un0 ++ wCo cy bX0 x00 x01 x02 co0 ++ wDe cy bX1 x10 (fun _ => (0 : Int32)) ++ [(q13, .inl (cy 0, 5, .inl (fun _ => 0)))])) := hD
  have kg_setting := hts (Cond.fieldLink RX5 36 "SparePool$State" "setting" "[I") (List.mem_of_getElem? (i := 18) rfl)
  refine lv_aload_n hx hb dX5_init_44 rfl (lv_at hl 0 rfl) ?_
  refine lv_iconst (v := (3 : Int32)) hx hb dX5_init_45 (by decide) ?_
  refine nw_arr (atype := .int) (ty := .int) (a0 := (3, .inl (fun _ => 0))) hx hb ka rfl (fun _ h9 => h9) 0 rfl hG.1 hP hD hS hA (fun _ => rfl) (by decide) (by decide) (Nat.le_of_ble_eq_true rfl) (Nat.le_of_ble_eq_true rfl) (Nat.le_of_ble_eq_true rfl) dX5_init_46 (fun q14 H hP hD hS => ?_)
  refine W.widen (k := 14) (n := 388) (Nat.le_of_ble_eq_true rfl) (Nat.le_of_ble_eq_true rfl) ?_
  have hP : va_P D vwCl ((a, .inr (3, [.ref bX7, .ref bX0, .ref bX1, .ref q13, .null, .int 0, .int 0, .int 0, .int 0])) :: (wUn cy bX7 x70 x71 x72 x73 x74 un0 ++ wCo cy bX0 x00 x01 x02 co0 ++ wDe cy bX1 x10 (fun _ => (0 : Int32)) ++ [(q13, .inl (cy 0, 5, .inl (fun _ => 0)))] ++ [(q14, .inl (cy 0, 3, .inl (fun _ => 0)))])) H := va_P_eq hP (by simp only [List.append_assoc, List.cons_append, List.nil_append])
  have hD : va_D A ((a, .inr (3, [.ref bX7, .ref bX0, .ref bX1, .ref q13, .null, .int 0, .int 0, .int 0, .int 0])) :: (wUn cy bX7 x70 x71 x72 x73 x74 un0 ++ wCo cy bX0 x00 x01 x02 co0 ++ wDe cy bX1 x10 (fun _ => (0 : Int32)) ++ [(q13, .inl (cy 0, 5, .inl (fun _ => 0)))] ++ [(q14, .inl (cy 0, 3, .inl (fun _ => 0)))])) := va_D_eq hD (by simp only [List.append_assoc, List.cons_append, List.nil_append])
  refine va_putF (D := D) (ci := 3) (v := .ref q14) (ty := .array .int) (C := RX5) (T := TX5) (N := 9) hx hb hts in_X5 tyX5 tyX5_ok nmX5 hown hG.1 hP hD hS 0 rfl rfl 4 (by decide) kg_setting (fun _ h9 => h9) rfl hnm rfl (by decide +kernel) rfl rfl (Nat.le_of_ble_eq_true rfl) dX5_init_48 (fun H locs hP hD hS => ?_)
  have hP : va_P D vwCl ((a, .inr (3, [.ref bX7, .ref bX0, .ref bX1, .ref q13, .ref q14, .int 0, .int 0, .int 0, .int 0])) :: (wUn cy bX7 x70 x71 x72 x73 x74 un0 ++ wCo cy bX0 x00 x01 x02 co0 ++ wDe cy bX1 x10 (fun _ => (0 : Int32)) ++ [(q13, .inl (cy 0, 5, .inl (fun _ => 0)))] ++ [(q14, .inl (cy 0, 3, .inl (fun _ => 0)))])) H := hP
  have hD : va_D A ((a, .inr (3, [.ref bX7, .ref bX0, .ref bX1, .ref q13, .ref q14, .int 0, .int 0, .int 0, .int 0])) :: (wUn cy bX7 x70 x71 x72 x73 x74 un0 ++ wCo cy bX0 x00 x01 x02 co0 ++ wDe cy bX1 x10 (fun _ => (0 : Int32)) ++ [(q13, .inl (cy 0, 5, .inl (fun _ => 0)))] ++ [(q14, .inl (cy 0, 3, .inl (fun _ => 0)))])) := hD
  have kq1 := hts (Cond.methodLink RX5 42 arraycopyName) (List.mem_of_getElem? (i := 19) rfl)
  have kq2 := hts (Cond.native arraycopyName) (List.mem_of_getElem? (i := 20) rfl)
  have kq3 := hts (Cond.static arraycopyName) (List.mem_of_getElem? (i := 21) rfl)
  have kq4 := hts (Cond.initialized "java/lang/System") (List.mem_of_getElem? (i := 22) rfl)
  refine va_getsN hx hb hF.1.1 hS hown (va_Nw.use rfl (nw_X5_39 hG.2)) (fun _ h9 => h9) dX5_init_51 ?_
  refine lv_iconst (v := (0 : Int32)) hx hb dX5_init_54 (by decide) ?_
  refine lv_aload_n hx hb dX5_init_55 rfl (lv_at hl 0 rfl) ?_
  refine va_get (D := D) (ci := 3) (v := .ref q14) (C := RX5) (T := TX5) (N := 9) hx hb hts in_X5 hown hG.1 hP 0 rfl rfl 4 (by decide) kg_setting (fun _ h9 => h9) rfl dX5_init_56 ?_
  refine lv_iconst (v := (0 : Int32)) hx hb dX5_init_59 (by decide) ?_
  refine lv_iconst (v := (3 : Int32)) hx hb dX5_init_60 (by decide) ?_
  refine fx_copy hx hb (hml.trans hl.1.symm) hown kq1 kq2 kq3 kq4 hG.1 hP hD hS hF.1.2.2.1 14 0 (g := fun _ => 0) rfl rfl (by decide) (by decide) (by decide) (by decide) (by decide) (Nat.le_of_ble_eq_true rfl) (Nat.le_of_ble_eq_true rfl) dX5_init_61 (fun H locs hP hD hS => ?_)
  have fin : at_X5 D cy a A H := by
    refine ⟨fun i => [a, bX7, x70, x71, x72, x73, x74, bX0, x00, x01, x02, bX1, x10, q13, q14].getD i 0, rfl, fun k q hq => ?_, by refine w_adr ?_ hD; rfl⟩
    match k with
      | 0 => cases hq; exact hP 0 _ rfl
      | 1 => cases hq; exact hP 1 _ rfl
      | 2 => cases hq; exact hP 2 _ rfl
      | 3 => cases hq; exact hP 3 _ rfl
      | 4 => cases hq; exact hP 4 _ rfl
      | 5 => cases hq; exact hP 5 _ rfl
      | 6 => cases hq; exact hP 6 _ rfl
      | 7 => cases hq; exact hP 7 _ rfl
      | 8 => cases hq; exact hP 8 _ rfl
      | 9 => cases hq; exact hP 9 _ rfl
      | 10 => cases hq; exact hP 10 _ rfl
      | 11 => cases hq; exact hP 11 _ rfl
      | 12 => cases hq; exact hP 12 _ rfl
      | 13 => cases hq; exact hP 13 _ rfl
      | 14 => cases hq; exact at_arr (hP 14 _ rfl) (fun j hj => cpyI (n := 3) (by decide) hj)
      | k + 15 => cases hq
  exact W.vret hx hb hr (fun u hu _ => ⟨⟨(), rfl, trivial, by show at_X5 D cy a A u.heap; rw [hu]; exact fin⟩, hS.F hu⟩) hS.2.2 dX5_init_64 hlocks
