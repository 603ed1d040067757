def sp0 : SpT := (tx0, st00, st00, st00, st00, hi0, (fun _ => 0))
def at_X8 (D : va_G) (cy : Nat → ClassId) (a : Nat) (A : Nat → Prop) (H : Heap) : Prop := ∃ (xa sa sb tr na : Nat → Nat) (ka : Nat → Nat → Nat), xa 0 = a ∧ va_P D vwCl (wSp cy xa sa sb tr na ka sp0) H ∧ va_D A (wSp cy xa sa sb tr na ka sp0)
theorem hd_X8_init : yX8_init.cls ≠ "java/lang/invoke/MethodHandle" ∧ yX8_init.cls ≠ "java/lang/invoke/VarHandle" ∧ (parseMethodDescriptor yX8_init.desc).map (fun d => d.parameters.length) = some 0 := by decide +kernel
theorem q_made {X T A B R N S : va_W} : (X ++ (T ++ (N ++ (R ++ (S ++ (A ++ B)))))).Perm (w7 X T A B R N S) := by
  unfold w7
  refine List.Perm.append_left X (List.Perm.append_left T ?_)
  refine (pm_in (pm_in (pm_in (List.Perm.refl (A ++ B))))).trans (List.Perm.append_left A ?_)
  refine (pm_in (pm_in List.perm_append_comm)).trans (List.Perm.append_left B ?_)
  exact pm_in (List.Perm.refl _)
set_option maxHeartbeats 2000000 in
set_option maxRecDepth 20000 in
theorem c_X8_init (l : Launch) (D : va_G) (cy : Nat → ClassId) (t : FxA) (a : Nat) : CN l D cy t yX8_init wsX8_init ({ frames := 4, cells := 291, slots := 7692, locals := 101 } : Room) [(a, .inr (6, [.null, .null, .null, .null, .null, .null]))] [.ref a] (at_X8 D cy a) := by
  refine CN.body (by decide) rfl (Nat.le_of_ble_eq_true rfl) ?_
  intro p e s m below meth c hx hb hml hr hts hown hlocks hnm hP hG ls hl A hD hA hS hF
  have hl : lv_has ls 2 [(0, .ref a)] := hl
  have hCF : CallFix p m c cX8_init 2 s ([.ref a] : List Value).toArray wsX8_init RX8 := ⟨hx, hb, hml, hown, hts⟩
  have in_X8 : ∀ w ∈ u_ws RX8 TX8 6, w ∈ wsX8_init := fun _ h => List.mem_cons_of_mem _ (List.mem_append_left _ (List.mem_append_left _ (List.mem_append_left _ (List.mem_append_left _ (List.mem_append_left _ (List.mem_append_right _ h))))))
  have in_X5 : ∀ w ∈ u_ws RX5 TX5 9, w ∈ wsX8_init := fun _ h => List.mem_cons_of_mem _ (List.mem_append_left _ (List.mem_append_left _ (List.mem_append_left _ (List.mem_append_left _ (List.mem_append_right _ h)))))
  have in_X6 : ∀ w ∈ u_ws RX6 TX6 7, w ∈ wsX8_init := fun _ h => List.mem_cons_of_mem _ (List.mem_append_left _ (List.mem_append_left _ (List.mem_append_left _ (List.mem_append_left _ (List.mem_append_left _ (List.mem_append_left _ (List.mem_append_right _ h)))))))
  have in_X2 : ∀ w ∈ u_ws RX2 TX2 3, w ∈ wsX8_init := fun _ h => List.mem_cons_of_mem _ (List.mem_append_left _ (List.mem_append_left _ (List.mem_append_left _ (List.mem_append_right _ h))))
  have ko := hts (Cond.methodLink RX8 1 objectInit) (List.mem_of_getElem? (i := 1) rfl)
  have ki := hts (Cond.instanceMethod objectInit) (List.mem_of_getElem? (i := 2) rfl)
  have kc := hts (Cond.code objectInit ⟨#[0xb1]⟩ 1 none) (List.mem_of_getElem? (i := 3) rfl)
  have kl_X6 := hts (Cond.classLink RX8 7 RX6) (List.mem_of_getElem? (i := 4) rfl)
  have kn_X6 := hts (Cond.instantiable RX6 7) (List.mem_of_getElem? (i := 5) rfl)
  have kz_X6 := hts (Cond.initialized RX6) (List.mem_of_getElem? (i := 6) rfl)
  have km_X6 := hts (Cond.instanceMethod yX6_init) (List.mem_of_getElem? (i := 20) rfl)
  have kl_X5 := hts (Cond.classLink RX8 16 RX5) (List.mem_of_getElem? (i := 8) rfl)
  have kn_X5 := hts (Cond.instantiable RX5 9) (List.mem_of_getElem? (i := 9) rfl)
  have kz_X5 := hts (Cond.initialized RX5) (List.mem_of_getElem? (i := 10) rfl)
  have km_X5 := hts (Cond.instanceMethod yX5_init) (List.mem_of_getElem? (i := 25) rfl)
  have kl_X2 := hts (Cond.classLink RX8 26 RX2) (List.mem_of_getElem? (i := 13) rfl)
  have kn_X2 := hts (Cond.instantiable RX2 3) (List.mem_of_getElem? (i := 14) rfl)
  have kz_X2 := hts (Cond.initialized RX2) (List.mem_of_getElem? (i := 15) rfl)
  have km_X2 := hts (Cond.instanceMethod yX2_init) (List.mem_of_getElem? (i := 64) rfl)
  have kg_text := hts (Cond.fieldLink RX8 10 "SparePool" "text" "LSparePool$Text;") (List.mem_of_getElem? (i := 7) rfl)
  have kg_now := hts (Cond.fieldLink RX8 19 "SparePool" "now" "LSparePool$State;") (List.mem_of_getElem? (i := 11) rfl)
  have kg_trial := hts (Cond.fieldLink RX8 23 "SparePool" "trial" "LSparePool$State;") (List.mem_of_getElem? (i := 12) rfl)
  have kg_history := hts (Cond.fieldLink RX8 29 "SparePool" "history" "LSparePool$History;") (List.mem_of_getElem? (i := 16) rfl)
  have kg_slots := hts (Cond.fieldLink RX8 33 "SparePool" "slots" "[LSparePool$State;") (List.mem_of_getElem? (i := 17) rfl)
  have kg_saved := hts (Cond.fieldLink RX8 37 "SparePool" "saved" "[Z") (List.mem_of_getElem? (i := 19) rfl)
  have ka := hts (Cond.arrayClass .boolean) (List.mem_of_getElem? (i := 18) rfl)
  refine lv_aload_n hx hb dX8_init_0 rfl (lv_at hl 0 rfl) ?_
  refine W.objInit hx hb hown ko ki kc rfl (by rw [hml]; exact hl.1) rfl dX8_init_1 (Nat.le_of_ble_eq_true rfl) (Nat.le_of_ble_eq_true rfl) ?_
  refine W.eq (g2 := F0 m 4 ls []) rfl ?_
  have hP : va_P D vwCl (((a, .inr (6, [.null, .null, .null, .null, .null, .null])) :: []) ++ ([]) : va_W) s.heap := hP
  have hD : va_D A (((a, .inr (6, [.null, .null, .null, .null, .null, .null])) :: []) ++ ([]) : va_W) := hD
  refine lv_aload_n hx hb dX8_init_4 rfl (lv_at hl 0 rfl) ?_
  refine va_new (ci := 4) (fs := [.null, .int 0, .int 0, .int 0, .int 0, .int 0, .int 0]) (C := RX6) (T := TX6) (N := 7) hx hb hts in_X6 tyX6 tyX6_ok hown kl_X6 kn_X6 kz_X6 hG.1 hP hD hS hA rfl (fun j hj => by rcases (show j = 0 ∨ j = 1 ∨ j = 2 ∨ j = 3 ∨ j = 4 ∨ j = 5 ∨ j = 6 by omega) with rfl | rfl | rfl | rfl | rfl | rfl | rfl <;> rfl) (Nat.le_of_ble_eq_true rfl) (Nat.le_of_ble_eq_true rfl) dX8_init_5 (fun bt H hP hD hS => ?_)
  refine W.widen (k := 1) (n := 7) (Nat.le_of_ble_eq_true rfl) (Nat.le_of_ble_eq_true rfl) ?_
  refine lv_dup hx hb dX8_init_8 rfl ?_
  refine cnN (wr := (((a, .inr (6, [.null, .null, .null, .null, .null, .null])) :: []) ++ ([]) : va_W)) (wc := [(bt, .inr (4, [.null, .int 0, .int 0, .int 0, .int 0, .int 0, .int 0]))]) (rest := [.ref bt, .ref a]) (c_X6_init l D cy t bt) hCF gX8_init_X6_init_n9 (nw_X8_9 hG.2) kz_X6 km_X6 rfl rfl hd_X6_init ⟨Nat.le_of_ble_eq_true rfl, Nat.le_of_ble_eq_true rfl⟩ hG hF hP hD hS hA hl.1 rfl (Nat.le_of_ble_eq_true rfl) dX8_init_9 ⟨Nat.le_of_ble_eq_true rfl, Nat.le_of_ble_eq_true rfl⟩ (fun H locs _ _ hS hj hB => ?_)
  obtain ⟨bt0, hP1, hD1⟩ := hB
  obtain ⟨hP, hD⟩ := hj _ hP1 hD1
  clear hj hP1 hD1
  refine W.widen (k := 2) (n := 127) (Nat.le_of_ble_eq_true rfl) (Nat.le_of_ble_eq_true rfl) ?_
  have hP : va_P D vwCl (((a, .inr (6, [.null, .null, .null, .null, .null, .null])) :: []) ++ (wTx cy bt bt0 tx0) : va_W) H := va_P_eq hP (by simp only [List.append_assoc, List.cons_append, List.nil_append, List.append_nil])
  have hD : va_D A (((a, .inr (6, [.null, .null, .null, .null, .null, .null])) :: []) ++ (wTx cy bt bt0 tx0) : va_W) := va_D_eq hD (by simp only [List.append_assoc, List.cons_append, List.nil_append, List.append_nil])
  refine va_putF (D := D) (ci := 6) (v := .ref bt) (ty := .object RX6) (C := RX8) (T := TX8) (N := 6) hx hb hts in_X8 tyX8 tyX8_ok nmX8 hown hG.1 hP hD hS 0 rfl rfl 0 (by decide) kg_text (fun _ h9 => h9) rfl hnm rfl (by decide +kernel) rfl rfl (Nat.le_of_ble_eq_true rfl) dX8_init_12 (fun H locs hP hD hS => ?_)
  have hP : va_P D vwCl (((a, .inr (6, [.ref bt, .null, .null, .null, .null, .null])) :: []) ++ (wTx cy bt bt0 tx0) : va_W) H := hP
  have hD : va_D A (((a, .inr (6, [.ref bt, .null, .null, .null, .null, .null])) :: []) ++ (wTx cy bt bt0 tx0) : va_W) := hD
  refine lv_aload_n hx hb dX8_init_15 rfl (lv_at hl 0 rfl) ?_
  refine va_new (ci := 3) (fs := [.null, .null, .null, .null, .null, .int 0, .int 0, .int 0, .int 0]) (C := RX5) (T := TX5) (N := 9) hx hb hts in_X5 tyX5 tyX5_ok hown kl_X5 kn_X5 kz_X5 hG.1 hP hD hS hA rfl (fun j hj => by rcases (show j = 0 ∨ j = 1 ∨ j = 2 ∨ j = 3 ∨ j = 4 ∨ j = 5 ∨ j = 6 ∨ j = 7 ∨ j = 8 by omega) with rfl | rfl | rfl | rfl | rfl | rfl | rfl | rfl | rfl <;> rfl) (Nat.le_of_ble_eq_true rfl) (Nat.le_of_ble_eq_true rfl) dX8_init_16 (fun bn H hP hD hS => ?_)
  refine W.widen (k := 3) (n := 136) (Nat.le_of_ble_eq_true rfl) (Nat.le_of_ble_eq_true rfl) ?_
  refine lv_dup hx hb dX8_init_19 rfl ?_
  refine cnN (wr := (((a, .inr (6, [.ref bt, .null, .null, .null, .null, .null])) :: []) ++ (wTx cy bt bt0 tx0) : va_W)) (wc := [(bn, .inr (3, [.null, .null, .null, .null, .null, .int 0, .int 0, .int 0, .int 0]))]) (rest := [.ref bn, .ref a]) (c_X5_init l D cy t bn) hCF gX8_init_X5_init_n18 (nw_X8_18 hG.2) kz_X5 km_X5 rfl rfl hd_X5_init ⟨Nat.le_of_ble_eq_true rfl, Nat.le_of_ble_eq_true rfl⟩ hG hF hP hD hS hA hl.1 rfl (Nat.le_of_ble_eq_true rfl) dX8_init_20 ⟨Nat.le_of_ble_eq_true rfl, Nat.le_of_ble_eq_true rfl⟩ (fun H locs _ _ hS hj hB => ?_)
  obtain ⟨bnf, ebn, hP1, hD1⟩ := hB
  obtain ⟨hP, hD⟩ := hj _ hP1 hD1
  clear hj hP1 hD1
  refine W.widen (k := 17) (n := 524) (Nat.le_of_ble_eq_true rfl) (Nat.le_of_ble_eq_true rfl) ?_
  have hP : va_P D vwCl (((a, .inr (6, [.ref bt, .null, .null, .null, .null, .null])) :: []) ++ (wTx cy bt bt0 tx0 ++ (wSt cy bnf st00)) : va_W) H := va_P_eq hP (by simp only [List.append_assoc, List.cons_append, List.nil_append, List.append_nil])
  have hD : va_D A (((a, .inr (6, [.ref bt, .null, .null, .null, .null, .null])) :: []) ++ (wTx cy bt bt0 tx0 ++ (wSt cy bnf st00)) : va_W) := va_D_eq hD (by simp only [List.append_assoc, List.cons_append, List.nil_append, List.append_nil])
  refine va_putF (D := D) (ci := 6) (v := .ref bn) (ty := .object RX5) (C := RX8) (T := TX8) (N := 6) hx hb hts in_X8 tyX8 tyX8_ok nmX8 hown hG.1 hP hD hS 0 rfl rfl 1 (by decide) kg_now (fun _ h9 => h9) rfl hnm rfl (by decide +kernel) rfl rfl (Nat.le_of_ble_eq_true rfl) dX8_init_23 (fun H locs hP hD hS => ?_)
  have hP : va_P D vwCl (((a, .inr (6, [.ref bt, .ref bn, .null, .null, .null, .null])) :: []) ++ (wTx cy bt bt0 tx0 ++ (wSt cy bnf st00)) : va_W) H := hP
  have hD : va_D A (((a, .inr (6, [.ref bt, .ref bn, .null, .null, .null, .null])) :: []) ++ (wTx cy bt bt0 tx0 ++ (wSt cy bnf st00)) : va_W) := hD
  refine lv_aload_n hx hb dX8_init_26 rfl (lv_at hl 0 rfl) ?_
  refine va_new (ci := 3) (fs := [.null, .null, .null, .null, .null, .int 0, .int 0, .int 0, .int 0]) (C := RX5) (T := TX5) (N := 9) hx hb hts in_X5 tyX5 tyX5_ok hown kl_X5 kn_X5 kz_X5 hG.1 hP hD hS hA rfl (fun j hj => by rcases (show j = 0 ∨ j = 1 ∨ j = 2 ∨ j = 3 ∨ j = 4 ∨ j = 5 ∨ j = 6 ∨ j = 7 ∨ j = 8 by omega) with rfl | rfl | rfl | rfl | rfl | rfl | rfl | rfl | rfl <;> rfl) (Nat.le_of_ble_eq_true rfl) (Nat.le_of_ble_eq_true rfl) dX8_init_27 (fun br H hP hD hS => ?_)
  refine W.widen (k := 18) (n := 533) (Nat.le_of_ble_eq_true rfl) (Nat.le_of_ble_eq_true rfl) ?_
  refine lv_dup hx hb dX8_init_30 rfl ?_
  refine cnN (wr := (((a, .inr (6, [.ref bt, .ref bn, .null, .null, .null, .null])) :: []) ++ (wTx cy bt bt0 tx0 ++ (wSt cy bnf st00)) : va_W)) (wc := [(br, .inr (3, [.null, .null, .null, .null, .null, .int 0, .int 0, .int 0, .int 0]))]) (rest := [.ref br, .ref a]) (c_X5_init l D cy t br) hCF gX8_init_X5_init_n18 (nw_X8_18 hG.2) kz_X5 km_X5 rfl rfl hd_X5_init ⟨Nat.le_of_ble_eq_true rfl, Nat.le_of_ble_eq_true rfl⟩ hG hF hP hD hS hA hl.1 rfl (Nat.le_of_ble_eq_true rfl) dX8_init_31 ⟨Nat.le_of_ble_eq_true rfl, Nat.le_of_ble_eq_true rfl⟩ (fun H locs _ _ hS hj hB => ?_)
  obtain ⟨brf, ebr, hP1, hD1⟩ := hB
  obtain ⟨hP, hD⟩ := hj _ hP1 hD1
  clear hj hP1 hD1
  refine W.widen (k := 32) (n := 921) (Nat.le_of_ble_eq_true rfl) (Nat.le_of_ble_eq_true rfl) ?_
  have hP : va_P D vwCl (((a, .inr (6, [.ref bt, .ref bn, .null, .null, .null, .null])) :: []) ++ (wTx cy bt bt0 tx0 ++ (wSt cy bnf st00 ++ (wSt cy brf st00))) : va_W) H := va_P_eq hP (by simp only [List.append_assoc, List.cons_append, List.nil_append, List.append_nil])
  have hD : va_D A (((a, .inr (6, [.ref bt, .ref bn, .null, .null, .null, .null])) :: []) ++ (wTx cy bt bt0 tx0 ++ (wSt cy bnf st00 ++ (wSt cy brf st00))) : va_W) := va_D_eq hD (by simp only [List.append_assoc, List.cons_append, List.nil_append, List.append_nil])
  refine va_putF (D := D) (ci := 6) (v := .ref br) (ty := .object RX5) (C := RX8) (T := TX8) (N := 6) hx hb hts in_X8 tyX8 tyX8_ok nmX8 hown hG.1 hP hD hS 0 rfl rfl 2 (by decide) kg_trial (fun _ h9 => h9) rfl hnm rfl (by decide +kernel) rfl rfl (Nat.le_of_ble_eq_true rfl) dX8_init_34 (fun H locs hP hD hS => ?_)
  have hP : va_P D vwCl (((a, .inr (6, [.ref bt, .ref bn, .ref br, .null, .null, .null])) :: []) ++ (wTx cy bt bt0 tx0 ++ (wSt cy bnf st00 ++ (wSt cy brf st00))) : va_W) H := hP
  have hD : va_D A (((a, .inr (6, [.ref bt, .ref bn, .ref br, .null, .null, .null])) :: []) ++ (wTx cy bt bt0 tx0 ++ (wSt cy bnf st00 ++ (wSt cy brf st00))) : va_W) := hD
  refine lv_aload_n hx hb dX8_init_37 rfl (lv_at hl 0 rfl) ?_
  refine va_new (ci := 2) (fs := [.null, .int 0, .int 0]) (C := RX2) (T := TX2) (N := 3) hx hb hts in_X2 tyX2 tyX2_ok hown kl_X2 kn_X2 kz_X2 hG.1 hP hD hS hA rfl (fun j hj => by rcases (show j = 0 ∨ j = 1 ∨ j = 2 by omega) with rfl | rfl | rfl <;> rfl) (Nat.le_of_ble_eq_true rfl) (Nat.le_of_ble_eq_true rfl) dX8_init_38 (fun bh H hP hD hS => ?_)
  refine W.widen (k := 33) (n := 924) (Nat.le_of_ble_eq_true rfl) (Nat.le_of_ble_eq_true rfl) ?_
  refine lv_dup hx hb dX8_init_41 rfl ?_
  refine cnN (wr := (((a, .inr (6, [.ref bt, .ref bn, .ref br, .null, .null, .null])) :: []) ++ (wTx cy bt bt0 tx0 ++ (wSt cy bnf st00 ++ (wSt cy brf st00))) : va_W)) (wc := [(bh, .inr (2, [.null, .int 0, .int 0]))]) (rest := [.ref bh, .ref a]) (c_X2_init l D cy t bh) hCF gX8_init_X2_init_n28 (nw_X8_28 hG.2) kz_X2 km_X2 rfl rfl hd_X2_init ⟨Nat.le_of_ble_eq_true rfl, Nat.le_of_ble_eq_true rfl⟩ hG hF hP hD hS hA hl.1 rfl (Nat.le_of_ble_eq_true rfl) dX8_init_42 ⟨Nat.le_of_ble_eq_true rfl, Nat.le_of_ble_eq_true rfl⟩ (fun H locs _ _ hS hj hB => ?_)
  obtain ⟨bh1, bhk, hP1, hD1⟩ := hB
  obtain ⟨hP, hD⟩ := hj _ hP1 hD1
  clear hj hP1 hD1
  refine W.widen (k := 259) (n := 6894) (Nat.le_of_ble_eq_true rfl) (Nat.le_of_ble_eq_true rfl) ?_
  have hP : va_P D vwCl (((a, .inr (6, [.ref bt, .ref bn, .ref br, .null, .null, .null])) :: []) ++ (wTx cy bt bt0 tx0 ++ (wSt cy bnf st00 ++ (wSt cy brf st00 ++ (wHi cy bh bh1 bhk hi0)))) : va_W) H := va_P_eq hP (by simp only [List.append_assoc, List.cons_append, List.nil_append, List.append_nil])
  have hD : va_D A (((a, .inr (6, [.ref bt, .ref bn, .ref br, .null, .null, .null])) :: []) ++ (wTx cy bt bt0 tx0 ++ (wSt cy bnf st00 ++ (wSt cy brf st00 ++ (wHi cy bh bh1 bhk hi0)))) : va_W) := va_D_eq hD (by simp only [List.append_assoc, List.cons_append, List.nil_append, List.append_nil])
  refine va_putF (D := D) (ci := 6) (v := .ref bh) (ty := .object RX2) (C := RX8) (T := TX8) (N := 6) hx hb hts in_X8 tyX8 tyX8_ok nmX8 hown hG.1 hP hD hS 0 rfl rfl 3 (by decide) kg_history (fun _ h9 => h9) rfl hnm rfl (by decide +kernel) rfl rfl (Nat.le_of_ble_eq_true rfl) dX8_init_45 (fun H locs hP hD hS => ?_)
  have hP : va_P D vwCl (((a, .inr (6, [.ref bt, .ref bn, .ref br, .ref bh, .null, .null])) :: []) ++ (wTx cy bt bt0 tx0 ++ (wSt cy bnf st00 ++ (wSt cy brf st00 ++ (wHi cy bh bh1 bhk hi0)))) : va_W) H := hP
  have hD : va_D A (((a, .inr (6, [.ref bt, .ref bn, .ref br, .ref bh, .null, .null])) :: []) ++ (wTx cy bt bt0 tx0 ++ (wSt cy bnf st00 ++ (wSt cy brf st00 ++ (wHi cy bh bh1 bhk hi0)))) : va_W) := hD
  refine lv_aload_n hx hb dX8_init_48 rfl (lv_at hl 0 rfl) ?_
  refine lv_iconst (v := (2 : Int32)) hx hb dX8_init_49 (by decide) ?_
  refine nw_arq (N' := 2) hx hb hown kl_X5 hF.2.2.2.2.2.1 2 rfl hG.1 hP hD hS hA (by decide) (by decide) (Nat.le_of_ble_eq_true rfl) (Nat.le_of_ble_eq_true rfl) (Nat.le_of_ble_eq_true rfl) dX8_init_50 (fun q1 H hP hD hS => ?_)
  refine W.widen (k := 260) (n := 6896) (Nat.le_of_ble_eq_true rfl) (Nat.le_of_ble_eq_true rfl) ?_
  have hP : va_P D vwCl (((a, .inr (6, [.ref bt, .ref bn, .ref br, .ref bh, .null, .null])) :: (q1, .inl (cy 2, 2, .inr (.inr (.inr (.inr (fun _ => none)))))) :: []) ++ (wTx cy bt bt0 tx0 ++ (wSt cy bnf st00 ++ (wSt cy brf st00 ++ (wHi cy bh bh1 bhk hi0)))) : va_W) H := va_P_perm (List.Perm.cons _ (List.perm_append_comm (l₂ := ([(q1, .inl (cy 2, 2, .inr (.inr (.inr (.inr (fun _ => none))))))] : va_W)))) hP
  have hD : va_D A (((a, .inr (6, [.ref bt, .ref bn, .ref br, .ref bh, .null, .null])) :: (q1, .inl (cy 2, 2, .inr (.inr (.inr (.inr (fun _ => none)))))) :: []) ++ (wTx cy bt bt0 tx0 ++ (wSt cy bnf st00 ++ (wSt cy brf st00 ++ (wHi cy bh bh1 bhk hi0)))) : va_W) := va_D_perm (List.Perm.cons _ (List.perm_append_comm (l₂ := ([(q1, .inl (cy 2, 2, .inr (.inr (.inr (.inr (fun _ => none))))))] : va_W)))) hD
  refine va_putF (D := D) (ci := 6) (v := .ref q1) (ty := .array (.object RX5)) (C := RX8) (T := TX8) (N := 6) hx hb hts in_X8 tyX8 tyX8_ok nmX8 hown hG.1 hP hD hS 0 rfl rfl 4 (by decide) kg_slots (fun _ h9 => h9) rfl hnm rfl (by decide +kernel) rfl rfl (Nat.le_of_ble_eq_true rfl) dX8_init_53 (fun H locs hP hD hS => ?_)
  have hP : va_P D vwCl (((a, .inr (6, [.ref bt, .ref bn, .ref br, .ref bh, .ref q1, .null])) :: (q1, .inl (cy 2, 2, .inr (.inr (.inr (.inr (fun _ => none)))))) :: []) ++ (wTx cy bt bt0 tx0 ++ (wSt cy bnf st00 ++ (wSt cy brf st00 ++ (wHi cy bh bh1 bhk hi0)))) : va_W) H := hP
  have hD : va_D A (((a, .inr (6, [.ref bt, .ref bn, .ref br, .ref bh, .ref q1, .null])) :: (q1, .inl (cy 2, 2, .inr (.inr (.inr (.inr (fun _ => none)))))) :: []) ++ (wTx cy bt bt0 tx0 ++ (wSt cy bnf st00 ++ (wSt cy brf st00 ++ (wHi cy bh bh1 bhk hi0)))) : va_W) := hD
  refine lv_aload_n hx hb dX8_init_56 rfl (lv_at hl 0 rfl) ?_
  refine lv_iconst (v := (2 : Int32)) hx hb dX8_init_57 (by decide) ?_
  refine nw_arr (atype := .boolean) (ty := .boolean) (a0 := (2, .inl (fun _ => 0))) hx hb ka rfl (fun _ h9 => h9) 1 rfl hG.1 hP hD hS hA (fun _ => rfl) (by decide) (by decide) (Nat.le_of_ble_eq_true rfl) (Nat.le_of_ble_eq_true rfl) (Nat.le_of_ble_eq_true rfl) dX8_init_58 (fun q2 H hP hD hS => ?_)
  refine W.widen (k := 261) (n := 6898) (Nat.le_of_ble_eq_true rfl) (Nat.le_of_ble_eq_true rfl) ?_
  have hP : va_P D vwCl (((a, .inr (6, [.ref bt, .ref bn, .ref br, .ref bh, .ref q1, .null])) :: (q1, .inl (cy 2, 2, .inr (.inr (.inr (.inr (fun _ => none)))))) :: (q2, .inl (cy 1, 2, .inl (fun _ => 0))) :: []) ++ (wTx cy bt bt0 tx0 ++ (wSt cy bnf st00 ++ (wSt cy brf st00 ++ (wHi cy bh bh1 bhk hi0)))) : va_W) H := va_P_perm (List.Perm.cons _ ((List.Perm.cons _ (List.perm_append_comm (l₂ := ([(q2, .inl (cy 1, 2, .inl (fun _ => 0)))] : va_W)))))) hP
  have hD : va_D A (((a, .inr (6, [.ref bt, .ref bn, .ref br, .ref bh, .ref q1, .null])) :: (q1, .inl (cy 2, 2, .inr (.inr (.inr (.inr (fun _ => none)))))) :: (q2, .inl (cy 1, 2, .inl (fun _ => 0))) :: []) ++ (wTx cy bt bt0 tx0 ++ (wSt cy bnf st00 ++ (wSt cy brf st00 ++ (wHi cy bh bh1 bhk hi0)))) : va_W) := va_D_perm (List.Perm.cons _ ((List.Perm.cons _ (List.perm_append_comm (l₂ := ([(q2, .inl (cy 1, 2, .inl (fun _ => 0)))] : va_W)))))) hD
  refine va_putF (D := D) (ci := 6) (v := .ref q2) (ty := .array .boolean) (C := RX8) (T := TX8) (N := 6) hx hb hts in_X8 tyX8 tyX8_ok nmX8 hown hG.1 hP hD hS 0 rfl rfl 5 (by decide) kg_saved (fun _ h9 => h9) rfl hnm rfl (by decide +kernel) rfl rfl (Nat.le_of_ble_eq_true rfl) dX8_init_60 (fun H locs hP hD hS => ?_)
  have hP : va_P D vwCl (((a, .inr (6, [.ref bt, .ref bn, .ref br, .ref bh, .ref q1, .ref q2])) :: (q1, .inl (cy 2, 2, .inr (.inr (.inr (.inr (fun _ => none)))))) :: (q2, .inl (cy 1, 2, .inl (fun _ => 0))) :: []) ++ (wTx cy bt bt0 tx0 ++ (wSt cy bnf st00 ++ (wSt cy brf st00 ++ (wHi cy bh bh1 bhk hi0)))) : va_W) H := hP
  have hD : va_D A (((a, .inr (6, [.ref bt, .ref bn, .ref br, .ref bh, .ref q1, .ref q2])) :: (q1, .inl (cy 2, 2, .inr (.inr (.inr (.inr (fun _ => none)))))) :: (q2, .inl (cy 1, 2, .inl (fun _ => 0))) :: []) ++ (wTx cy bt bt0 tx0 ++ (wSt cy bnf st00 ++ (wSt cy brf st00 ++ (wHi cy bh bh1 bhk hi0)))) : va_W) := hD
  refine lv_iconst (v := (0 : Int32)) hx hb dX8_init_63 (by decide) ?_
  refine lv_istore_n (lv' := [(1, .int (0 : Int32)), (0, .ref a)]) hx hb dX8_init_64 rfl hl (by decide) rfl (fun ls hl => ?_)
  refine lv_iload_n hx hb dX8_init_65 rfl (lv_at hl 0 rfl) ?_
  refine lv_iconst (v := (2 : Int32)) hx hb dX8_init_66 (by decide) ?_
  refine lv_icmp_ge (tgt := 89) hx hb dX8_init_67 (by decide) (fun c => absurd c (by decide)) (fun _ => ?_)
  refine lv_aload_n hx hb dX8_init_70 rfl (lv_at hl 1 rfl) ?_
  refine va_get (D := D) (ci := 6) (v := .ref q1) (C := RX8) (T := TX8) (N := 6) hx hb hts in_X8 hown hG.1 hP 0 rfl rfl 4 (by decide) kg_slots (fun _ h9 => h9) rfl dX8_init_71 ?_
  refine lv_iload_n hx hb dX8_init_74 rfl (lv_at hl 0 rfl) ?_
  refine va_new (ci := 3) (fs := [.null, .null, .null, .null, .null, .int 0, .int 0, .int 0, .int 0]) (C := RX5) (T := TX5) (N := 9) hx hb hts in_X5 tyX5 tyX5_ok hown kl_X5 kn_X5 kz_X5 hG.1 hP hD hS hA rfl (fun j hj => by rcases (show j = 0 ∨ j = 1 ∨ j = 2 ∨ j = 3 ∨ j = 4 ∨ j = 5 ∨ j = 6 ∨ j = 7 ∨ j = 8 by omega) with rfl | rfl | rfl | rfl | rfl | rfl | rfl | rfl | rfl <;> rfl) (Nat.le_of_ble_eq_true rfl) (Nat.le_of_ble_eq_true rfl) dX8_init_75 (fun ba H hP hD hS => ?_)
  refine W.widen (k := 262) (n := 6907) (Nat.le_of_ble_eq_true rfl) (Nat.le_of_ble_eq_true rfl) ?_
  refine lv_dup hx hb dX8_init_78 rfl ?_
  refine cnN (wr := (((a, .inr (6, [.ref bt, .ref bn, .ref br, .ref bh, .ref q1, .ref q2])) :: (q1, .inl (cy 2, 2, .inr (.inr (.inr (.inr (fun _ => none)))))) :: (q2, .inl (cy 1, 2, .inl (fun _ => 0))) :: []) ++ (wTx cy bt bt0 tx0 ++ (wSt cy bnf st00 ++ (wSt cy brf st00 ++ (wHi cy bh bh1 bhk hi0)))) : va_W)) (wc := [(ba, .inr (3, [.null, .null, .null, .null, .null, .int 0, .int 0, .int 0, .int 0]))]) (rest := [.ref ba, .int (0 : Int32), .ref q1]) (c_X5_init l D cy t ba) hCF gX8_init_X5_init_n18 (nw_X8_18 hG.2) kz_X5 km_X5 rfl rfl hd_X5_init ⟨Nat.le_of_ble_eq_true rfl, Nat.le_of_ble_eq_true rfl⟩ hG hF hP hD hS hA hl.1 rfl (Nat.le_of_ble_eq_true rfl) dX8_init_79 ⟨Nat.le_of_ble_eq_true rfl, Nat.le_of_ble_eq_true rfl⟩ (fun H locs _ _ hS hj hB => ?_)
  obtain ⟨baf, eba, hP1, hD1⟩ := hB
  obtain ⟨hP, hD⟩ := hj _ hP1 hD1
  clear hj hP1 hD1
  refine W.widen (k := 276) (n := 7295) (Nat.le_of_ble_eq_true rfl) (Nat.le_of_ble_eq_true rfl) ?_
  have hP : va_P D vwCl (((a, .inr (6, [.ref bt, .ref bn, .ref br, .ref bh, .ref q1, .ref q2])) :: (q1, .inl (cy 2, 2, .inr (.inr (.inr (.inr (fun _ => none)))))) :: (q2, .inl (cy 1, 2, .inl (fun _ => 0))) :: []) ++ (wTx cy bt bt0 tx0 ++ (wSt cy bnf st00 ++ (wSt cy brf st00 ++ (wHi cy bh bh1 bhk hi0 ++ (wSt cy baf st00))))) : va_W) H := va_P_eq hP (by simp only [List.append_assoc, List.cons_append, List.nil_append, List.append_nil])
  have hD : va_D A (((a, .inr (6, [.ref bt, .ref bn, .ref br, .ref bh, .ref q1, .ref q2])) :: (q1, .inl (cy 2, 2, .inr (.inr (.inr (.inr (fun _ => none)))))) :: (q2, .inl (cy 1, 2, .inl (fun _ => 0))) :: []) ++ (wTx cy bt bt0 tx0 ++ (wSt cy bnf st00 ++ (wSt cy brf st00 ++ (wHi cy bh bh1 bhk hi0 ++ (wSt cy baf st00))))) : va_W) := va_D_eq hD (by simp only [List.append_assoc, List.cons_append, List.nil_append, List.append_nil])
  have hmem : (ba, .inr (3, [.ref (baf 1), .ref (baf 7), .ref (baf 11), .ref (baf 13), .ref (baf 14), .int 0, .int 0, .int 0, .int 0])) ∈ (((a, .inr (6, [.ref bt, .ref bn, .ref br, .ref bh, .ref q1, .ref q2])) :: (q1, .inl (cy 2, 2, .inr (.inr (.inr (.inr (fun _ => none)))))) :: (q2, .inl (cy 1, 2, .inl (fun _ => 0))) :: []) ++ (wTx cy bt bt0 tx0 ++ (wSt cy bnf st00 ++ (wSt cy brf st00 ++ (wHi cy bh bh1 bhk hi0 ++ (wSt cy baf st00))))) : va_W) := by
    have h9 : (ba, .inr (3, [.ref (baf 1), .ref (baf 7), .ref (baf 11), .ref (baf 13), .ref (baf 14), .int 0, .int 0, .int 0, .int 0])) ∈ wSt cy baf st00 := by rw [← eba]; exact List.mem_of_getElem? g_St_0
    simp only [List.mem_append]; simp only [h9, or_true, true_or]
  obtain ⟨qk, hqk⟩ := List.mem_iff_getElem?.mp hmem
  refine va_astq hx hb hG.1 hP hD hS 1 2 qk 3 (f := fun _ => none) rfl rfl hqk rfl (bd_of (by decide) (by decide)) dX8_init_82 (fun H locs hP hD hS => ?_)
  have hP : va_P D vwCl (((a, .inr (6, [.ref bt, .ref bn, .ref br, .ref bh, .ref q1, .ref q2])) :: (q1, .inl (cy 2, 2, .inr (.inr (.inr (.inr (va_up (fun _ => none) (0 : Int32).toNatClampNeg (some ba))))))) :: (q2, .inl (cy 1, 2, .inl (fun _ => 0))) :: []) ++ (wTx cy bt bt0 tx0 ++ (wSt cy bnf st00 ++ (wSt cy brf st00 ++ (wHi cy bh bh1 bhk hi0 ++ (wSt cy baf st00))))) : va_W) H := hP
  have hD : va_D A (((a, .inr (6, [.ref bt, .ref bn, .ref br, .ref bh, .ref q1, .ref q2])) :: (q1, .inl (cy 2, 2, .inr (.inr (.inr (.inr (va_up (fun _ => none) (0 : Int32).toNatClampNeg (some ba))))))) :: (q2, .inl (cy 1, 2, .inl (fun _ => 0))) :: []) ++ (wTx cy bt bt0 tx0 ++ (wSt cy bnf st00 ++ (wSt cy brf st00 ++ (wHi cy bh bh1 bhk hi0 ++ (wSt cy baf st00))))) : va_W) := hD
  clear hmem hqk
  refine lv_iinc (v := (1 : Int32)) (lv' := [(1, .int (1 : Int32)), (0, .ref a)]) hx hb dX8_init_83 hl (k := 0) rfl rfl (by decide) rfl (fun ls hl => ?_)
  refine lv_goto (tgt := 65) hx hb dX8_init_86 (by decide) ?_
  refine lv_iload_n hx hb dX8_init_65 rfl (lv_at hl 0 rfl) ?_
  refine lv_iconst (v := (2 : Int32)) hx hb dX8_init_66 (by decide) ?_
  refine lv_icmp_ge (tgt := 89) hx hb dX8_init_67 (by decide) (fun c => absurd c (by decide)) (fun _ => ?_)
  refine lv_aload_n hx hb dX8_init_70 rfl (lv_at hl 1 rfl) ?_
  refine va_get (D := D) (ci := 6) (v := .ref q1) (C := RX8) (T := TX8) (N := 6) hx hb hts in_X8 hown hG.1 hP 0 rfl rfl 4 (by decide) kg_slots (fun _ h9 => h9) rfl dX8_init_71 ?_
  refine lv_iload_n hx hb dX8_init_74 rfl (lv_at hl 0 rfl) ?_
  refine va_new (ci := 3) (fs := [.null, .null, .null, .null, .null, .int 0, .int 0, .int 0, .int 0]) (C := RX5) (T := TX5) (N := 9) hx hb hts in_X5 tyX5 tyX5_ok hown kl_X5 kn_X5 kz_X5 hG.1 hP hD hS hA rfl (fun j hj => by rcases (show j = 0 ∨ j = 1 ∨ j = 2 ∨ j = 3 ∨ j = 4 ∨ j = 5 ∨ j = 6 ∨ j = 7 ∨ j = 8 by omega) with rfl | rfl | rfl | rfl | rfl | rfl | rfl | rfl | rfl <;> rfl) (Nat.le_of_ble_eq_true rfl) (Nat.le_of_ble_eq_true rfl) dX8_init_75 (fun bb H hP hD hS => ?_)
  refine W.widen (k := 277) (n := 7304) (Nat.le_of_ble_eq_true rfl) (Nat.le_of_ble_eq_true rfl) ?_
  refine lv_dup hx hb dX8_init_78 rfl ?_
  refine cnN (wr := (((a, .inr (6, [.ref bt, .ref bn, .ref br, .ref bh, .ref q1, .ref q2])) :: (q1, .inl (cy 2, 2, .inr (.inr (.inr (.inr (va_up (fun _ => none) (0 : Int32).toNatClampNeg (some ba))))))) :: (q2, .inl (cy 1, 2, .inl (fun _ => 0))) :: []) ++ (wTx cy bt bt0 tx0 ++ (wSt cy bnf st00 ++ (wSt cy brf st00 ++ (wHi cy bh bh1 bhk hi0 ++ (wSt cy baf st00))))) : va_W)) (wc := [(bb, .inr (3, [.null, .null, .null, .null, .null, .int 0, .int 0, .int 0, .int 0]))]) (rest := [.ref bb, .int (1 : Int32), .ref q1]) (c_X5_init l D cy t bb) hCF gX8_init_X5_init_n18 (nw_X8_18 hG.2) kz_X5 km_X5 rfl rfl hd_X5_init ⟨Nat.le_of_ble_eq_true rfl, Nat.le_of_ble_eq_true rfl⟩ hG hF hP hD hS hA hl.1 rfl (Nat.le_of_ble_eq_true rfl) dX8_init_79 ⟨Nat.le_of_ble_eq_true rfl, Nat.le_of_ble_eq_true rfl⟩ (fun H locs _ _ hS hj hB => ?_)
  obtain ⟨bbf, ebb, hP1, hD1⟩ := hB
  obtain ⟨hP, hD⟩ := hj _ hP1 hD1
  clear hj hP1 hD1
  refine W.widen (k := 291) (n := 7692) (Nat.le_of_ble_eq_true rfl) (Nat.le_of_ble_eq_true rfl) ?_
  have hP : va_P D vwCl (((a, .inr (6, [.ref bt, .ref bn, .ref br, .ref bh, .ref q1, .ref q2])) :: (q1, .inl (cy 2, 2, .inr (.inr (.inr (.inr (va_up (fun _ => none) (0 : Int32).toNatClampNeg (some ba))))))) :: (q2, .inl (cy 1, 2, .inl (fun _ => 0))) :: []) ++ (wTx cy bt bt0 tx0 ++ (wSt cy bnf st00 ++ (wSt cy brf st00 ++ (wHi cy bh bh1 bhk hi0 ++ (wSt cy baf st00 ++ (wSt cy bbf st00)))))) : va_W) H := va_P_eq hP (by simp only [List.append_assoc, List.cons_append, List.nil_append, List.append_nil])
  have hD : va_D A (((a, .inr (6, [.ref bt, .ref bn, .ref br, .ref bh, .ref q1, .ref q2])) :: (q1, .inl (cy 2, 2, .inr (.inr (.inr (.inr (va_up (fun _ => none) (0 : Int32).toNatClampNeg (some ba))))))) :: (q2, .inl (cy 1, 2, .inl (fun _ => 0))) :: []) ++ (wTx cy bt bt0 tx0 ++ (wSt cy bnf st00 ++ (wSt cy brf st00 ++ (wHi cy bh bh1 bhk hi0 ++ (wSt cy baf st00 ++ (wSt cy bbf st00)))))) : va_W) := va_D_eq hD (by simp only [List.append_assoc, List.cons_append, List.nil_append, List.append_nil])
  have hmem : (bb, .inr (3, [.ref (bbf 1), .ref (bbf 7), .ref (bbf 11), .ref (bbf 13), .ref (bbf 14), .int 0, .int 0, .int 0, .int 0])) ∈ (((a, .inr (6, [.ref bt, .ref bn, .ref br, .ref bh, .ref q1, .ref q2])) :: (q1, .inl (cy 2, 2, .inr (.inr (.inr (.inr (va_up (fun _ => none) (0 : Int32).toNatClampNeg (some ba))))))) :: (q2, .inl (cy 1, 2, .inl (fun _ => 0))) :: []) ++ (wTx cy bt bt0 tx0 ++ (wSt cy bnf st00 ++ (wSt cy brf st00 ++ (wHi cy bh bh1 bhk hi0 ++ (wSt cy baf st00 ++ (wSt cy bbf st00)))))) : va_W) := by
    have h9 : (bb, .inr (3, [.ref (bbf 1), .ref (bbf 7), .ref (bbf 11), .ref (bbf 13), .ref (bbf 14), .int 0, .int 0, .int 0, .int 0])) ∈ wSt cy bbf st00 := by rw [← ebb]; exact List.mem_of_getElem? g_St_0
    simp only [List.mem_append]; simp only [h9, or_true, true_or]
  obtain ⟨qk, hqk⟩ := List.mem_iff_getElem?.mp hmem
  refine va_astq hx hb hG.1 hP hD hS 1 2 qk 3 (f := va_up (fun _ => none) (0 : Int32).toNatClampNeg (some ba)) rfl rfl hqk rfl (bd_of (by decide) (by decide)) dX8_init_82 (fun H locs hP hD hS => ?_)
  have hP : va_P D vwCl (((a, .inr (6, [.ref bt, .ref bn, .ref br, .ref bh, .ref q1, .ref q2])) :: (q1, .inl (cy 2, 2, .inr (.inr (.inr (.inr (va_up (va_up (fun _ => none) (0 : Int32).toNatClampNeg (some ba)) (1 : Int32).toNatClampNeg (some bb))))))) :: (q2, .inl (cy 1, 2, .inl (fun _ => 0))) :: []) ++ (wTx cy bt bt0 tx0 ++ (wSt cy bnf st00 ++ (wSt cy brf st00 ++ (wHi cy bh bh1 bhk hi0 ++ (wSt cy baf st00 ++ (wSt cy bbf st00)))))) : va_W) H := hP
  have hD : va_D A (((a, .inr (6, [.ref bt, .ref bn, .ref br, .ref bh, .ref q1, .ref q2])) :: (q1, .inl (cy 2, 2, .inr (.inr (.inr (.inr (va_up (va_up (fun _ => none) (0 : Int32).toNatClampNeg (some ba)) (1 : Int32).toNatClampNeg (some bb))))))) :: (q2, .inl (cy 1, 2, .inl (fun _ => 0))) :: []) ++ (wTx cy bt bt0 tx0 ++ (wSt cy bnf st00 ++ (wSt cy brf st00 ++ (wHi cy bh bh1 bhk hi0 ++ (wSt cy baf st00 ++ (wSt cy bbf st00)))))) : va_W) := hD
  clear hmem hqk
  refine lv_iinc (v := (2 : Int32)) (lv' := [(1, .int (2 : Int32)), (0, .ref a)]) hx hb dX8_init_83 hl (k := 0) rfl rfl (by decide) rfl (fun ls hl => ?_)
  refine lv_goto (tgt := 65) hx hb dX8_init_86 (by decide) ?_
  refine lv_iload_n hx hb dX8_init_65 rfl (lv_at hl 0 rfl) ?_
  refine lv_iconst (v := (2 : Int32)) hx hb dX8_init_66 (by decide) ?_
  refine lv_icmp_ge (tgt := 89) hx hb dX8_init_67 (by decide) (fun _ => ?_) (fun c => absurd (by decide) c)
  have fin : at_X8 D cy a A H := by
    refine ⟨fun i => [a, q1, q2, bt, bt0, bh, bh1].getD i 0, baf, bbf, brf, bnf, bhk, rfl, ?_, ?_⟩
    · refine va_P_perm q_made (va_P.app ?_ (va_P_right hP))
      intro k q hq
      match k with
      | 0 => cases hq; rw [← ebn, ← ebr] at hP; exact va_P_left hP 0 _ rfl
      | 1 => cases hq; refine at_arrq (va_P_left hP 1 _ rfl) (fun j hj => ?_)
             rcases (show j = 0 ∨ j = 1 by omega) with rfl | rfl
             · show some ba = some (baf 0); rw [eba]
             · show some bb = some (bbf 0); rw [ebb]
      | 2 => cases hq; exact va_P_left hP 2 _ rfl
      | k + 3 => cases hq
    · refine va_D_perm q_made (w_adr ?_ hD)
      simp only [List.map_append]; rfl
  exact W.vret hx hb hr (fun u hu _ => ⟨⟨(), rfl, trivial, by show at_X8 D cy a A u.heap; rw [hu]; exact fin⟩, hS.F hu⟩) hS.2.2 dX8_init_89 hlocks
