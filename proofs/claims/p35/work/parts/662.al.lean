/-! p35: the contract of alike -/
theorem inDebt_L : ∀ (nF : Nat) (r : SpT) (a b : Int32), (m_X8_inDebt_L4 nF r a b).2 = r := by
  intro nF
  induction nF with
  | zero => intro r a b; rfl
  | succ nF ih =>
    intro r a b
    rw [m_X8_inDebt_L4]
    repeat' split
    all_goals first | rfl | exact ih _ _ _
theorem inDebt_z (z : SpT) : (m_X8_inDebt z).2 = z := inDebt_L 100 z 0 0
theorem h_2 {cy : Nat → ClassId} {xa sa sb tr na : Nat → Nat} {ka : Nat → Nat → Nat} {xb sc sd ts nb : Nat → Nat} {kb : Nat → Nat → Nat} {z1 z2 y1 y2 : SpT} : (wSp cy xa sa sb tr na ka y1 ++ wSp cy xb sc sd ts nb kb y2).map Prod.fst = (wSp cy xa sa sb tr na ka z1 ++ wSp cy xb sc sd ts nb kb z2).map Prod.fst := by
  rw [List.map_append, List.map_append, h_Sp (z := z1) (z2 := y1), h_Sp (z := z2) (z2 := y2)]
theorem SIM.q {T : Int} {z1 z2 : SpT} (h : SIM T z1 z2) (h0 : 100000 ≤ T) (h1 : T ≤ 1000000) : (∀ k : Nat, k < 24 → ∀ a b c : Int32, kV (callP z1 k a b c) = kV (callP z2 k a b c)) ∧ (∀ a b c d : Int32, kV (m_X8_owed z1 a b c d) = kV (m_X8_owed z2 a b c d)) := by
  refine ⟨fun k hk a b c => (sim_call h h0 h1 k hk).1, fun a b c d => ?_⟩
  obtain ⟨mo, a1, b1⟩ := h
  exact (ag_kV (ag_owed a1) (ag_owed b1) gES_ee).1
theorem SIM.e {T : Int} {z1 z2 : SpT} (h : SIM T z1 z2) (h1 : T ≤ 1000000) : (m_X6_firstError (pT z1)).1 = (m_X6_firstError (pT z2)).1 ∧ (m_X8_firstDue z1).1 = (m_X8_firstDue z2).1 ∧ (m_X8_inDebt z1).1 = (m_X8_inDebt z2).1 := by
  obtain ⟨mo, a1, b1⟩ := h
  exact ⟨(ag_errorPosition a1).2.trans (ag_errorPosition b1).2.symm, (ag_firstDue a1).2.trans (ag_firstDue b1).2.symm, (ag_inDebt a1 h1).2.trans (ag_inDebt b1 h1).2.symm⟩
set_option maxRecDepth 20000 in
theorem w_al4 {p : Program} {l : Launch} {e : Env} {s : State} {m : MethodId} {below : List Frame} {meth : Method} {c : Code} {D : va_G} {cy : Nat → ClassId} {t : FxA} {A : Nat → Prop} {xa sa sb tr na : Nat → Nat} {ka : Nat → Nat → Nat} {xb sc sd ts nb : Nat → Nat} {kb : Nat → Nat → Nat} {z1 z2 : SpT} {x : Int32} (C0 : LR p l s m meth c ([.ref (xa 0), .ref (xb 0), .int x] : List Value).toArray cL_alike 6 wc_alike (some .boolean) D cy t A) (o1 : OKz z1 ∧ VIS z1 z1) (o2 : OKz z2 ∧ VIS z2 z2) (hq : ∀ k : Nat, k < 24 → ∀ a b c : Int32, kV (callP z1 k a b c) = kV (callP z2 k a b c)) (ho : ∀ a b c d : Int32, kV (m_X8_owed z1 a b c d) = kV (m_X8_owed z2 a b c d)) {y1 y2 : SpT} (v1 : VIS y1 z1) (v2 : VIS y2 z2) {cells slots : Nat} (hc : cells + 6 ≤ 200) (hs : slots + 36 ≤ 1200) {H : Heap} {locs : List Loc} {ls : Array Slot} (hl : lv_has ls 6 [(3, .int (1 : Int32)), (0, .ref (xa 0)), (1, .ref (xb 0)), (2, .int x)]) (hP : va_P D vwCl (wSp cy xa sa sb tr na ka z1 ++ wSp cy xb sc sd ts nb kb z2) H) (hD : va_D A (wSp cy xa sa sb tr na ka z1 ++ wSp cy xb sc sd ts nb kb z2)) (hS : va_S A s.heap H locs) : @Wx p l e ({ frames := 10, cells := 200, slots := 1200, locals := 300 } : Room) s m ([.ref (xa 0), .ref (xb 0), .int x] : List Value).toArray below meth c H locs cells slots (MQ below (va_Qi (fun r (u : SpT × SpT) => r = 1 ∧ (OKz u.1 ∧ VIS y1 u.1) ∧ (OKz u.2 ∧ VIS y2 u.2)) (fun u t => va_P D vwCl ((fun (u : SpT × SpT) => (wSp cy xa sa sb tr na ka u.1 ++ wSp cy xb sc sd ts nb kb u.2)) u) t.heap) A) ([.ref (xa 0), .ref (xb 0), .int x] : List Value).toArray s 200 1200 A) (F0 m 352 ls []) := by
  obtain ⟨hx, hb, hr, hlocks, hts, hown, hCF, hG, hF, hA, hl0⟩ := C0
  refine lv_iload_n hx hb dL_alike_352 rfl (lv_at hl 0 rfl) ?_
  refine lv_if_eq (tgt := 465) hx hb dL_alike_353 (by decide) (fun q => absurd q (by decide)) (fun _ => ?_)
  refine lv_aload_n hx hb dL_alike_356 rfl (lv_at hl 1 rfl) ?_
  refine lv_bipush (v := (18 : Int32)) hx hb dL_alike_357 (by decide) ?_
  refine lv_iload_n hx hb dL_alike_359 rfl (lv_at hl 3 rfl) ?_
  refine lv_iconst (v := (5 : Int32)) hx hb dL_alike_360 (by decide) ?_
  refine lv_irem hx hb dL_alike_361 (by decide) ?_
  refine lv_iload_n hx hb dL_alike_362 rfl (lv_at hl 3 rfl) ?_
  refine lv_bipush (v := (8 : Int32)) hx hb dL_alike_363 (by decide) ?_
  refine lv_idiv hx hb dL_alike_365 (by decide) ?_
  refine lv_iconst (v := (3 : Int32)) hx hb dL_alike_366 (by decide) ?_
  refine lv_irem hx hb dL_alike_367 (by decide) ?_
  refine lv_iconst (v := (0 : Int32)) hx hb dL_alike_368 (by decide) ?_
  refine hwS (A0 := A) (As := [.ref (xa 0), .int (18 : Int32), .int (rmJ x (5 : Int32)), .int (rmJ (x / (8 : Int32)) (3 : Int32)), .int (0 : Int32)]) (rest := []) (W1 := (wSp cy xa sa sb tr na ka z1 ++ wSp cy xb sc sd ts nb kb z2)) (W2 := (wSp cy xa sa sb tr na ka z1 ++ wSp cy xb sc sd ts nb kb z2)) ((cq_18 l hl0 D cy t xa sa sb tr na ka o1.1 (rmJ x (5 : Int32)) (rmJ (x / (8 : Int32)) (3 : Int32)) (0 : Int32)).ctx (List.Perm.refl _) (List.Perm.refl _)) hCF gw_L_call.more rfl hq_L_call ⟨Nat.le_of_ble_eq_true rfl, Nat.le_of_ble_eq_true rfl⟩ hG hF hP hD hS hA rfl rfl hl.1 rfl (Nat.le_of_ble_eq_true rfl) dL_alike_369 ⟨by show _ ≤ 200; omega, by show _ ≤ 1200; omega⟩ (fun H locs hP hD hS => ?_)
  refine lv_aload_n hx hb dL_alike_372 rfl (lv_at hl 2 rfl) ?_
  refine lv_bipush (v := (18 : Int32)) hx hb dL_alike_373 (by decide) ?_
  refine lv_iload_n hx hb dL_alike_375 rfl (lv_at hl 3 rfl) ?_
  refine lv_iconst (v := (5 : Int32)) hx hb dL_alike_376 (by decide) ?_
  refine lv_irem hx hb dL_alike_377 (by decide) ?_
  refine lv_iload_n hx hb dL_alike_378 rfl (lv_at hl 3 rfl) ?_
  refine lv_bipush (v := (8 : Int32)) hx hb dL_alike_379 (by decide) ?_
  refine lv_idiv hx hb dL_alike_381 (by decide) ?_
  refine lv_iconst (v := (3 : Int32)) hx hb dL_alike_382 (by decide) ?_
  refine lv_irem hx hb dL_alike_383 (by decide) ?_
  refine lv_iconst (v := (0 : Int32)) hx hb dL_alike_384 (by decide) ?_
  refine hwS (A0 := A) (As := [.ref (xb 0), .int (18 : Int32), .int (rmJ x (5 : Int32)), .int (rmJ (x / (8 : Int32)) (3 : Int32)), .int (0 : Int32)]) (rest := [.int (kV (callP z1 18 (rmJ x (5 : Int32)) (rmJ (x / (8 : Int32)) (3 : Int32)) (0 : Int32)))]) (W1 := (wSp cy xa sa sb tr na ka z1 ++ wSp cy xb sc sd ts nb kb z2)) (W2 := (wSp cy xa sa sb tr na ka z1 ++ wSp cy xb sc sd ts nb kb z2)) ((cq_18 l hl0 D cy t xb sc sd ts nb kb o2.1 (rmJ x (5 : Int32)) (rmJ (x / (8 : Int32)) (3 : Int32)) (0 : Int32)).ctx List.perm_append_comm List.perm_append_comm) hCF gw_L_call.more rfl hq_L_call ⟨Nat.le_of_ble_eq_true rfl, Nat.le_of_ble_eq_true rfl⟩ hG hF hP hD hS hA rfl rfl hl.1 rfl (Nat.le_of_ble_eq_true rfl) dL_alike_385 ⟨by show _ ≤ 200; omega, by show _ ≤ 1200; omega⟩ (fun H locs hP hD hS => ?_)
  refine lv_icmp_ne (tgt := 465) hx hb dL_alike_388 (by decide) (fun q => absurd (hq 18 (by decide) (rmJ x (5 : Int32)) (rmJ (x / (8 : Int32)) (3 : Int32)) (0 : Int32)) q) (fun _ => ?_)
  refine lv_aload_n hx hb dL_alike_391 rfl (lv_at hl 1 rfl) ?_
  refine lv_bipush (v := (19 : Int32)) hx hb dL_alike_392 (by decide) ?_
  refine lv_iload_n hx hb dL_alike_394 rfl (lv_at hl 3 rfl) ?_
  refine lv_iconst (v := (5 : Int32)) hx hb dL_alike_395 (by decide) ?_
  refine lv_irem hx hb dL_alike_396 (by decide) ?_
  refine lv_iload_n hx hb dL_alike_397 rfl (lv_at hl 3 rfl) ?_
  refine lv_bipush (v := (8 : Int32)) hx hb dL_alike_398 (by decide) ?_
  refine lv_idiv hx hb dL_alike_400 (by decide) ?_
  refine lv_iconst (v := (3 : Int32)) hx hb dL_alike_401 (by decide) ?_
  refine lv_irem hx hb dL_alike_402 (by decide) ?_
  refine lv_iconst (v := (0 : Int32)) hx hb dL_alike_403 (by decide) ?_
  refine hwS (A0 := A) (As := [.ref (xa 0), .int (19 : Int32), .int (rmJ x (5 : Int32)), .int (rmJ (x / (8 : Int32)) (3 : Int32)), .int (0 : Int32)]) (rest := []) (W1 := (wSp cy xa sa sb tr na ka z1 ++ wSp cy xb sc sd ts nb kb z2)) (W2 := (wSp cy xa sa sb tr na ka z1 ++ wSp cy xb sc sd ts nb kb z2)) ((cq_19 l hl0 D cy t xa sa sb tr na ka o1.1 (rmJ x (5 : Int32)) (rmJ (x / (8 : Int32)) (3 : Int32)) (0 : Int32)).ctx (List.Perm.refl _) (List.Perm.refl _)) hCF gw_L_call.more rfl hq_L_call ⟨Nat.le_of_ble_eq_true rfl, Nat.le_of_ble_eq_true rfl⟩ hG hF hP hD hS hA rfl rfl hl.1 rfl (Nat.le_of_ble_eq_true rfl) dL_alike_404 ⟨by show _ ≤ 200; omega, by show _ ≤ 1200; omega⟩ (fun H locs hP hD hS => ?_)
  refine lv_aload_n hx hb dL_alike_407 rfl (lv_at hl 2 rfl) ?_
  refine lv_bipush (v := (19 : Int32)) hx hb dL_alike_408 (by decide) ?_
  refine lv_iload_n hx hb dL_alike_410 rfl (lv_at hl 3 rfl) ?_
  refine lv_iconst (v := (5 : Int32)) hx hb dL_alike_411 (by decide) ?_
  refine lv_irem hx hb dL_alike_412 (by decide) ?_
  refine lv_iload_n hx hb dL_alike_413 rfl (lv_at hl 3 rfl) ?_
  refine lv_bipush (v := (8 : Int32)) hx hb dL_alike_414 (by decide) ?_
  refine lv_idiv hx hb dL_alike_416 (by decide) ?_
  refine lv_iconst (v := (3 : Int32)) hx hb dL_alike_417 (by decide) ?_
  refine lv_irem hx hb dL_alike_418 (by decide) ?_
  refine lv_iconst (v := (0 : Int32)) hx hb dL_alike_419 (by decide) ?_
  refine hwS (A0 := A) (As := [.ref (xb 0), .int (19 : Int32), .int (rmJ x (5 : Int32)), .int (rmJ (x / (8 : Int32)) (3 : Int32)), .int (0 : Int32)]) (rest := [.int (kV (callP z1 19 (rmJ x (5 : Int32)) (rmJ (x / (8 : Int32)) (3 : Int32)) (0 : Int32)))]) (W1 := (wSp cy xa sa sb tr na ka z1 ++ wSp cy xb sc sd ts nb kb z2)) (W2 := (wSp cy xa sa sb tr na ka z1 ++ wSp cy xb sc sd ts nb kb z2)) ((cq_19 l hl0 D cy t xb sc sd ts nb kb o2.1 (rmJ x (5 : Int32)) (rmJ (x / (8 : Int32)) (3 : Int32)) (0 : Int32)).ctx List.perm_append_comm List.perm_append_comm) hCF gw_L_call.more rfl hq_L_call ⟨Nat.le_of_ble_eq_true rfl, Nat.le_of_ble_eq_true rfl⟩ hG hF hP hD hS hA rfl rfl hl.1 rfl (Nat.le_of_ble_eq_true rfl) dL_alike_420 ⟨by show _ ≤ 200; omega, by show _ ≤ 1200; omega⟩ (fun H locs hP hD hS => ?_)
  refine lv_icmp_ne (tgt := 465) hx hb dL_alike_423 (by decide) (fun q => absurd (hq 19 (by decide) (rmJ x (5 : Int32)) (rmJ (x / (8 : Int32)) (3 : Int32)) (0 : Int32)) q) (fun _ => ?_)
  refine lv_aload_n hx hb dL_alike_426 rfl (lv_at hl 1 rfl) ?_
  refine lv_bipush (v := (21 : Int32)) hx hb dL_alike_427 (by decide) ?_
  refine lv_iload_n hx hb dL_alike_429 rfl (lv_at hl 3 rfl) ?_
  refine lv_iconst (v := (5 : Int32)) hx hb dL_alike_430 (by decide) ?_
  refine lv_irem hx hb dL_alike_431 (by decide) ?_
  refine lv_iload_n hx hb dL_alike_432 rfl (lv_at hl 3 rfl) ?_
  refine lv_bipush (v := (8 : Int32)) hx hb dL_alike_433 (by decide) ?_
  refine lv_idiv hx hb dL_alike_435 (by decide) ?_
  refine lv_iconst (v := (3 : Int32)) hx hb dL_alike_436 (by decide) ?_
  refine lv_irem hx hb dL_alike_437 (by decide) ?_
  refine lv_iconst (v := (0 : Int32)) hx hb dL_alike_438 (by decide) ?_
  refine hwS (A0 := A) (As := [.ref (xa 0), .int (21 : Int32), .int (rmJ x (5 : Int32)), .int (rmJ (x / (8 : Int32)) (3 : Int32)), .int (0 : Int32)]) (rest := []) (W1 := (wSp cy xa sa sb tr na ka z1 ++ wSp cy xb sc sd ts nb kb z2)) (W2 := (wSp cy xa sa sb tr na ka z1 ++ wSp cy xb sc sd ts nb kb z2)) ((cq_21 l hl0 D cy t xa sa sb tr na ka o1.1 (rmJ x (5 : Int32)) (rmJ (x / (8 : Int32)) (3 : Int32)) (0 : Int32)).ctx (List.Perm.refl _) (List.Perm.refl _)) hCF gw_L_call.more rfl hq_L_call ⟨Nat.le_of_ble_eq_true rfl, Nat.le_of_ble_eq_true rfl⟩ hG hF hP hD hS hA rfl rfl hl.1 rfl (Nat.le_of_ble_eq_true rfl) dL_alike_439 ⟨by show _ ≤ 200; omega, by show _ ≤ 1200; omega⟩ (fun H locs hP hD hS => ?_)
  refine lv_aload_n hx hb dL_alike_442 rfl (lv_at hl 2 rfl) ?_
  refine lv_bipush (v := (21 : Int32)) hx hb dL_alike_443 (by decide) ?_
  refine lv_iload_n hx hb dL_alike_445 rfl (lv_at hl 3 rfl) ?_
  refine lv_iconst (v := (5 : Int32)) hx hb dL_alike_446 (by decide) ?_
  refine lv_irem hx hb dL_alike_447 (by decide) ?_
  refine lv_iload_n hx hb dL_alike_448 rfl (lv_at hl 3 rfl) ?_
  refine lv_bipush (v := (8 : Int32)) hx hb dL_alike_449 (by decide) ?_
  refine lv_idiv hx hb dL_alike_451 (by decide) ?_
  refine lv_iconst (v := (3 : Int32)) hx hb dL_alike_452 (by decide) ?_
  refine lv_irem hx hb dL_alike_453 (by decide) ?_
  refine lv_iconst (v := (0 : Int32)) hx hb dL_alike_454 (by decide) ?_
  refine hwS (A0 := A) (As := [.ref (xb 0), .int (21 : Int32), .int (rmJ x (5 : Int32)), .int (rmJ (x / (8 : Int32)) (3 : Int32)), .int (0 : Int32)]) (rest := [.int (kV (callP z1 21 (rmJ x (5 : Int32)) (rmJ (x / (8 : Int32)) (3 : Int32)) (0 : Int32)))]) (W1 := (wSp cy xa sa sb tr na ka z1 ++ wSp cy xb sc sd ts nb kb z2)) (W2 := (wSp cy xa sa sb tr na ka z1 ++ wSp cy xb sc sd ts nb kb z2)) ((cq_21 l hl0 D cy t xb sc sd ts nb kb o2.1 (rmJ x (5 : Int32)) (rmJ (x / (8 : Int32)) (3 : Int32)) (0 : Int32)).ctx List.perm_append_comm List.perm_append_comm) hCF gw_L_call.more rfl hq_L_call ⟨Nat.le_of_ble_eq_true rfl, Nat.le_of_ble_eq_true rfl⟩ hG hF hP hD hS hA rfl rfl hl.1 rfl (Nat.le_of_ble_eq_true rfl) dL_alike_455 ⟨by show _ ≤ 200; omega, by show _ ≤ 1200; omega⟩ (fun H locs hP hD hS => ?_)
  refine lv_icmp_ne (tgt := 465) hx hb dL_alike_458 (by decide) (fun q => absurd (hq 21 (by decide) (rmJ x (5 : Int32)) (rmJ (x / (8 : Int32)) (3 : Int32)) (0 : Int32)) q) (fun _ => ?_)
  refine lv_iconst (v := (1 : Int32)) hx hb dL_alike_461 (by decide) ?_
  refine lv_goto (tgt := 466) hx hb dL_alike_462 (by decide) ?_
  exact hg_zret (W1 := (wSp cy xa sa sb tr na ka z1 ++ wSp cy xb sc sd ts nb kb z2)) hx hb hr hlocks (by decide) ((z1, z2) : SpT × SpT) ⟨rfl, ⟨o1.1, v1⟩, ⟨o2.1, v2⟩⟩ rfl hP hS (by omega) (by omega) dL_alike_466
set_option maxRecDepth 20000 in
theorem w_al5 {p : Program} {l : Launch} {e : Env} {s : State} {m : MethodId} {below : List Frame} {meth : Method} {c : Code} {D : va_G} {cy : Nat → ClassId} {t : FxA} {A : Nat → Prop} {xa sa sb tr na : Nat → Nat} {ka : Nat → Nat → Nat} {xb sc sd ts nb : Nat → Nat} {kb : Nat → Nat → Nat} {z1 z2 : SpT} {x : Int32} (C0 : LR p l s m meth c ([.ref (xa 0), .ref (xb 0), .int x] : List Value).toArray cL_alike 6 wc_alike (some .boolean) D cy t A) (o1 : OKz z1 ∧ VIS z1 z1) (o2 : OKz z2 ∧ VIS z2 z2) (hq : ∀ k : Nat, k < 24 → ∀ a b c : Int32, kV (callP z1 k a b c) = kV (callP z2 k a b c)) (ho : ∀ a b c d : Int32, kV (m_X8_owed z1 a b c d) = kV (m_X8_owed z2 a b c d)) {y1 y2 : SpT} (v1 : VIS y1 z1) (v2 : VIS y2 z2) {cells slots : Nat} (hc : cells = 0) (hs : slots = 0) {H : Heap} {locs : List Loc} {ls : Array Slot} (hl : lv_has ls 6 [(3, .int (1 : Int32)), (0, .ref (xa 0)), (1, .ref (xb 0)), (2, .int x)]) (hP : va_P D vwCl (wSp cy xa sa sb tr na ka z1 ++ wSp cy xb sc sd ts nb kb z2) H) (hD : va_D A (wSp cy xa sa sb tr na ka z1 ++ wSp cy xb sc sd ts nb kb z2)) (hS : va_S A s.heap H locs) : @Wx p l e ({ frames := 10, cells := 200, slots := 1200, locals := 300 } : Room) s m ([.ref (xa 0), .ref (xb 0), .int x] : List Value).toArray below meth c H locs cells slots (MQ below (va_Qi (fun r (u : SpT × SpT) => r = 1 ∧ (OKz u.1 ∧ VIS y1 u.1) ∧ (OKz u.2 ∧ VIS y2 u.2)) (fun u t => va_P D vwCl ((fun (u : SpT × SpT) => (wSp cy xa sa sb tr na ka u.1 ++ wSp cy xb sc sd ts nb kb u.2)) u) t.heap) A) ([.ref (xa 0), .ref (xb 0), .int x] : List Value).toArray s 200 1200 A) (F0 m 39 ls []) := by
  have C1 := C0
  obtain ⟨hx, hb, hr, hlocks, hts, hown, hCF, hG, hF, hA, hl0⟩ := C0
  subst hc hs
  refine lv_iconst (v := (0 : Int32)) hx hb dL_alike_39 (by decide) ?_
  refine lv_istore (lv' := [(4, .int (0 : Int32)), (3, .int (1 : Int32)), (0, .ref (xa 0)), (1, .ref (xb 0)), (2, .int x)]) hx hb dL_alike_40 hl (by decide) rfl (fun ls hl => ?_)
  refine w_al1 C1 o1 o2 hq ho 10 0 (by decide) (by decide) (by omega) (by omega) hl hP hD hS (fun ls H locs hl hP hD hS => ?_)
  refine lv_aload_n hx hb dL_alike_109 rfl (lv_at hl 1 rfl) ?_
  refine lv_iconst (v := (2 : Int32)) hx hb dL_alike_110 (by decide) ?_
  refine lv_iconst (v := (1 : Int32)) hx hb dL_alike_111 (by decide) ?_
  refine lv_iconst (v := (0 : Int32)) hx hb dL_alike_112 (by decide) ?_
  refine lv_iconst (v := (0 : Int32)) hx hb dL_alike_113 (by decide) ?_
  refine hwS (A0 := A) (As := [.ref (xa 0), .int (2 : Int32), .int (1 : Int32), .int (0 : Int32), .int (0 : Int32)]) (rest := []) (W1 := (wSp cy xa sa sb tr na ka z1 ++ wSp cy xb sc sd ts nb kb z2)) (W2 := (wSp cy xa sa sb tr na ka z1 ++ wSp cy xb sc sd ts nb kb z2)) ((cq_2 l hl0 D cy t xa sa sb tr na ka o1.1 (1 : Int32) (0 : Int32) (0 : Int32)).ctx (List.Perm.refl _) (List.Perm.refl _)) hCF gw_L_call.more rfl hq_L_call ⟨Nat.le_of_ble_eq_true rfl, Nat.le_of_ble_eq_true rfl⟩ hG hF hP hD hS hA rfl rfl hl.1 rfl (Nat.le_of_ble_eq_true rfl) dL_alike_114 ⟨by show _ ≤ 200; omega, by show _ ≤ 1200; omega⟩ (fun H locs hP hD hS => ?_)
  refine lv_istore (lv' := [(4, .int (kV (callP z1 2 (1 : Int32) (0 : Int32) (0 : Int32)))), (3, .int (1 : Int32)), (0, .ref (xa 0)), (1, .ref (xb 0)), (2, .int x)]) hx hb dL_alike_117 hl (by decide) rfl (fun ls hl => ?_)
  refine lv_iconst (v := (0 : Int32)) hx hb dL_alike_119 (by decide) ?_
  refine lv_istore (lv' := [(5, .int (0 : Int32)), (4, .int (kV (callP z1 2 (1 : Int32) (0 : Int32) (0 : Int32)))), (3, .int (1 : Int32)), (0, .ref (xa 0)), (1, .ref (xb 0)), (2, .int x)]) hx hb dL_alike_120 hl (by decide) rfl (fun ls hl => ?_)
  have hl : lv_has ls 6 [(5, .int (0 : Int32)), (4, .int (uN (sU (pN z1)))), (3, .int (1 : Int32)), (0, .ref (xa 0)), (1, .ref (xb 0)), (2, .int x)] := hl
  have u16 := o1.1.st.1
  refine w_al2 C1 o1 o2 hq ho u16.2 16 0 (by decide) (by rw [i32_0]; have := u16.2; omega) (by omega) (by omega) hl hP hD hS (fun ls H locs hl hP hD hS => ?_)
  refine lv_iconst (v := (0 : Int32)) hx hb dL_alike_193 (by decide) ?_
  refine lv_istore (lv' := [(5, .int (0 : Int32)), (3, .int (1 : Int32)), (0, .ref (xa 0)), (1, .ref (xb 0)), (2, .int x)]) hx hb dL_alike_194 hl (by decide) rfl (fun ls hl => ?_)
  refine w_al3 C1 o1 o2 hq ho 5 0 (by decide) (by decide) (by omega) (by omega) hl hP hD hS (fun ls H locs hl hP hD hS => ?_)
  exact w_al4 C1 o1 o2 hq ho v1 v2 (by omega) (by omega) hl hP hD hS
set_option maxRecDepth 20000 in
theorem c_L_alike (l : Launch) (hl0 : l.stackTraces = false) (D : va_G) (cy : Nat → ClassId) (t : FxA) (xa sa sb tr na : Nat → Nat) (ka : Nat → Nat → Nat) (xb sc sd ts nb : Nat → Nat) (kb : Nat → Nat → Nat) {y1 y2 : SpT} {T : Int} (sm : SIM T y1 y2) (h0 : 100000 ≤ T) (h1 : T ≤ 1000000) {x : Int32} : HG 10 200 1200 300 l D cy t yL_alike wc_alike (wSp cy xa sa sb tr na ka y1 ++ wSp cy xb sc sd ts nb kb y2) (fun (u : SpT × SpT) => (wSp cy xa sa sb tr na ka u.1 ++ wSp cy xb sc sd ts nb kb u.2)) (fun r (u : SpT × SpT) => r = 1 ∧ (OKz u.1 ∧ VIS y1 u.1) ∧ (OKz u.2 ∧ VIS y2 u.2)) [.ref (xa 0), .ref (xb 0), .int x] := by
  refine HG.body (by decide) rfl (Nat.le_of_ble_eq_true rfl) ?_
  intro p e s m below meth c hx hb hml hr hts hown hlocks hP hG ls hl A hD hA hS hF
  have hl : lv_has ls 6 [(0, .ref (xa 0)), (1, .ref (xb 0)), (2, .int x)] := hl
  have hCF : CallFix p m c cL_alike 6 s ([.ref (xa 0), .ref (xb 0), .int x] : List Value).toArray wc_alike RL := ⟨hx, hb, hml, hown, hts⟩
  have C1 : LR p l s m meth c ([.ref (xa 0), .ref (xb 0), .int x] : List Value).toArray cL_alike 6 wc_alike (some .boolean) D cy t A := ⟨hx, hb, hr, hlocks, hts, hown, hCF, hG, hF, hA, hl0⟩
  have o1 := sm.l h0 h1
  have o2 := sm.r h0 h1
  obtain ⟨e1, e2, e3⟩ := sm.e h1
  refine lv_aload_n hx hb dL_alike_0 rfl (lv_at hl 0 rfl) ?_
  refine fwV (ci := 6) (A0 := A) (As := []) (rest := []) (W1 := (wSp cy xa sa sb tr na ka y1 ++ wSp cy xb sc sd ts nb kb y2)) (W2 := (wSp cy xa sa sb tr na ka (pT' y1 (m_X6_firstError (pT y1)).2) ++ wSp cy xb sc sd ts nb kb y2)) ((c_X8_errorPosition l D cy t xa sa sb tr na ka y1 o1.tl).ctx (List.Perm.refl _) (List.Perm.refl _)) hCF gw_X8_errorPosition.more rfl hq_X8_errorPosition ⟨rfl, rfl, Nat.le_of_ble_eq_true rfl, Nat.le_of_ble_eq_true rfl⟩ hG hF hP hD hS hA h_2 rfl rfl (List.mem_append_left _ (List.mem_of_getElem? g_Sp_0)) rfl hl.1 rfl (Nat.le_of_ble_eq_true rfl) dL_alike_1 ⟨by show _ ≤ 200; omega, by show _ ≤ 1200; omega⟩ (fun H locs hP hD hS => ?_)
  refine lv_aload_n hx hb dL_alike_4 rfl (lv_at hl 1 rfl) ?_
  refine fwV (ci := 6) (A0 := A) (As := []) (rest := [.int ((m_X6_firstError (pT y1)).1)]) (W1 := (wSp cy xa sa sb tr na ka (pT' y1 (m_X6_firstError (pT y1)).2) ++ wSp cy xb sc sd ts nb kb y2)) (W2 := (wSp cy xa sa sb tr na ka (pT' y1 (m_X6_firstError (pT y1)).2) ++ wSp cy xb sc sd ts nb kb (pT' y2 (m_X6_firstError (pT y2)).2))) ((c_X8_errorPosition l D cy t xb sc sd ts nb kb y2 o2.tl).ctx List.perm_append_comm List.perm_append_comm) hCF gw_X8_errorPosition.more rfl hq_X8_errorPosition ⟨rfl, rfl, Nat.le_of_ble_eq_true rfl, Nat.le_of_ble_eq_true rfl⟩ hG hF hP hD hS hA h_2 rfl rfl (List.mem_append_right _ (List.mem_of_getElem? g_Sp_0)) rfl hl.1 rfl (Nat.le_of_ble_eq_true rfl) dL_alike_5 ⟨by show _ ≤ 200; omega, by show _ ≤ 1200; omega⟩ (fun H locs hP hD hS => ?_)
  refine lv_icmp_ne (tgt := 37) hx hb dL_alike_8 (by decide) (fun q => absurd e1 q) (fun _ => ?_)
  have ov1 : OKz (pT' y1 (m_X6_firstError (pT y1)).2) ∧ VIS y1 (pT' y1 (m_X6_firstError (pT y1)).2) := ⟨fe_vis.ok o1, fe_vis⟩
  have ov2 : OKz (pT' y2 (m_X6_firstError (pT y2)).2) ∧ VIS y2 (pT' y2 (m_X6_firstError (pT y2)).2) := ⟨fe_vis.ok o2, fe_vis⟩
  have sm := sm.vis ov1.2 ov2.2
  clear e1 e2 e3
  generalize pT' y1 (m_X6_firstError (pT y1)).2 = z1 at *
  generalize pT' y2 (m_X6_firstError (pT y2)).2 = z2 at *
  obtain ⟨-, e2, e3⟩ := sm.e h1
  refine lv_aload_n hx hb dL_alike_11 rfl (lv_at hl 0 rfl) ?_
  refine fwV (ci := 6) (A0 := A) (As := []) (rest := []) (W1 := (wSp cy xa sa sb tr na ka z1 ++ wSp cy xb sc sd ts nb kb z2)) (W2 := (wSp cy xa sa sb tr na ka z1 ++ wSp cy xb sc sd ts nb kb z2)) ((c_X8_firstDue l D cy t xa sa sb tr na ka z1 ov1.1.st).ctx (List.Perm.refl _) (List.Perm.refl _)) hCF gw_X8_firstDue.more rfl hq_X8_firstDue ⟨rfl, rfl, Nat.le_of_ble_eq_true rfl, Nat.le_of_ble_eq_true rfl⟩ hG hF hP hD hS hA h_2 rfl rfl (List.mem_append_left _ (List.mem_of_getElem? g_Sp_0)) rfl hl.1 rfl (Nat.le_of_ble_eq_true rfl) dL_alike_12 ⟨by show _ ≤ 200; omega, by show _ ≤ 1200; omega⟩ (fun H locs hP hD hS => ?_)
  refine lv_aload_n hx hb dL_alike_15 rfl (lv_at hl 1 rfl) ?_
  refine fwV (ci := 6) (A0 := A) (As := []) (rest := [.int ((m_X8_firstDue z1).1)]) (W1 := (wSp cy xa sa sb tr na ka z1 ++ wSp cy xb sc sd ts nb kb z2)) (W2 := (wSp cy xa sa sb tr na ka z1 ++ wSp cy xb sc sd ts nb kb z2)) ((c_X8_firstDue l D cy t xb sc sd ts nb kb z2 ov2.1.st).ctx List.perm_append_comm List.perm_append_comm) hCF gw_X8_firstDue.more rfl hq_X8_firstDue ⟨rfl, rfl, Nat.le_of_ble_eq_true rfl, Nat.le_of_ble_eq_true rfl⟩ hG hF hP hD hS hA h_2 rfl rfl (List.mem_append_right _ (List.mem_of_getElem? g_Sp_0)) rfl hl.1 rfl (Nat.le_of_ble_eq_true rfl) dL_alike_16 ⟨by show _ ≤ 200; omega, by show _ ≤ 1200; omega⟩ (fun H locs hP hD hS => ?_)
  refine lv_icmp_ne (tgt := 37) hx hb dL_alike_19 (by decide) (fun q => absurd e2 q) (fun _ => ?_)
  have i1 := c_X8_inDebt l D cy xa sa sb tr na ka z1 ov1.1.st
  have i2 := c_X8_inDebt l D cy xb sc sd ts nb kb z2 ov2.1.st
  rw [inDebt_z] at i1 i2
  refine lv_aload_n hx hb dL_alike_22 rfl (lv_at hl 0 rfl) ?_
  refine mwV (ci := 6) (A0 := A) (As := []) (rest := []) (W1 := (wSp cy xa sa sb tr na ka z1 ++ wSp cy xb sc sd ts nb kb z2)) (W2 := (wSp cy xa sa sb tr na ka z1 ++ wSp cy xb sc sd ts nb kb z2)) (i1.ctx (List.Perm.refl _) (List.Perm.refl _)) hCF gw_X8_inDebt.more rfl hq_X8_inDebt ⟨rfl, rfl, Nat.le_of_ble_eq_true rfl, Nat.le_of_ble_eq_true rfl⟩ hG hP hD hS hA h_2 rfl rfl (List.mem_append_left _ (List.mem_of_getElem? g_Sp_0)) rfl hl.1 rfl (Nat.le_of_ble_eq_true rfl) dL_alike_23 ⟨by show _ ≤ 200; omega, by show _ ≤ 1200; omega⟩ (fun H locs hP hD hS => ?_)
  refine lv_aload_n hx hb dL_alike_26 rfl (lv_at hl 1 rfl) ?_
  refine mwV (ci := 6) (A0 := A) (As := []) (rest := [.int ((m_X8_inDebt z1).1)]) (W1 := (wSp cy xa sa sb tr na ka z1 ++ wSp cy xb sc sd ts nb kb z2)) (W2 := (wSp cy xa sa sb tr na ka z1 ++ wSp cy xb sc sd ts nb kb z2)) (i2.ctx List.perm_append_comm List.perm_append_comm) hCF gw_X8_inDebt.more rfl hq_X8_inDebt ⟨rfl, rfl, Nat.le_of_ble_eq_true rfl, Nat.le_of_ble_eq_true rfl⟩ hG hP hD hS hA h_2 rfl rfl (List.mem_append_right _ (List.mem_of_getElem? g_Sp_0)) rfl hl.1 rfl (Nat.le_of_ble_eq_true rfl) dL_alike_27 ⟨by show _ ≤ 200; omega, by show _ ≤ 1200; omega⟩ (fun H locs hP hD hS => ?_)
  refine lv_icmp_ne (tgt := 37) hx hb dL_alike_30 (by decide) (fun q => absurd e3 q) (fun _ => ?_)
  refine lv_iconst (v := (1 : Int32)) hx hb dL_alike_33 (by decide) ?_
  refine lv_goto (tgt := 38) hx hb dL_alike_34 (by decide) ?_
  refine lv_istore_n (lv' := [(3, .int (1 : Int32)), (0, .ref (xa 0)), (1, .ref (xb 0)), (2, .int x)]) hx hb dL_alike_38 rfl hl (by decide) rfl (fun ls hl => ?_)
  exact w_al5 C1 ⟨ov1.1, VIS.rf⟩ ⟨ov2.1, VIS.rf⟩ (sm.q h0 h1).1 (sm.q h0 h1).2 ov1.2 ov2.2 rfl rfl hl hP hD hS
