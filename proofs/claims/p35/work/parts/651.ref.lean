/-! p35: refuses, on -/
set_option maxRecDepth 20000 in
theorem w_ref4 {p : Program} {l : Launch} {e : Env} {s : State} {m : MethodId} {below : List Frame} {meth : Method} {c : Code} {D : va_G} {cy : Nat → ClassId} {t : FxA} {A : Nat → Prop} {Q : State → Prop} {xa sa sb tr na : Nat → Nat} {ka : Nat → Nat → Nat} {z : SpT} {x : Int32} (C0 : LR p l s m meth c ([.ref (xa 0), .int x] : List Value).toArray cL_refuses 8 wc_refuses (some .boolean) D cy t A) (hx0 : 0 ≤ x.toInt) (h0 : OKz z) {T : Int} (g : SG T (pN z)) {cells slots : Nat} (hc : cells + 10 ≤ 100) (hs : slots + 60 ≤ 600) {H : Heap} {locs : List Loc} {ls : Array Slot} {z1 : SpT} (hl : lv_has ls 8 [(3, .int (1 : Int32)), (2, .int (uN (sU (pN z)))), (0, .ref (xa 0)), (1, .int x)]) (o1 : OKz z1 ∧ VIS z z1) (hP : va_P D vwCl (wSp cy xa sa sb tr na ka z1) H) (hD : va_D A (wSp cy xa sa sb tr na ka z1)) (hS : va_S A s.heap H locs)
    (kk : ∀ (ls : Array Slot) (H : Heap) (locs : List Loc) (z2 : SpT), lv_has ls 8 [(3, .int (1 : Int32)), (2, .int (uN (sU (pN z)))), (0, .ref (xa 0)), (1, .int x)] → (OKz z2 ∧ VIS z z2) → va_P D vwCl (wSp cy xa sa sb tr na ka z2) H → va_D A (wSp cy xa sa sb tr na ka z2) → va_S A s.heap H locs → @Wx p l e ({ frames := 10, cells := 100, slots := 600, locals := 300 } : Room) s m ([.ref (xa 0), .int x] : List Value).toArray below meth c H locs (cells + 10) (slots + 60) Q (F0 m 448 ls [])) : @Wx p l e ({ frames := 10, cells := 100, slots := 600, locals := 300 } : Room) s m ([.ref (xa 0), .int x] : List Value).toArray below meth c H locs cells slots Q (F0 m 288 ls []) := by
  obtain ⟨hx, hb, hr, hlocks, hts, hown, hCF, hG, hF, hA, hl0⟩ := C0
  have u16 := h0.st.1
  have nh : m_X7_has (sU (pN z)) (uN (sU (pN z))) = 0 := no_has (Or.inr (Int.le_refl _))
  refine lv_aload_n hx hb dL_refuses_288 rfl (lv_at hl 2 rfl) ?_
  refine lv_bipush (v := (8 : Int32)) hx hb dL_refuses_289 (by decide) ?_
  refine lv_iload_n hx hb dL_refuses_291 rfl (lv_at hl 1 rfl) ?_
  refine lv_iconst (v := (0 : Int32)) hx hb dL_refuses_292 (by decide) ?_
  refine lv_iconst (v := (0 : Int32)) hx hb dL_refuses_293 (by decide) ?_
  obtain ⟨z2, o2, hq⟩ := cn_8 l hl0 D cy t xa sa sb tr na ka o1 (uN (sU (pN z))) (0 : Int32) (0 : Int32) (v := (-9999001)) (r1_8 (f_lend1 (Or.inl (by rw [o1.2.2.1.1]; exact nh))))
  refine hwS (A0 := A) (As := [.ref (xa 0), .int (8 : Int32), .int (uN (sU (pN z))), .int (0 : Int32), .int (0 : Int32)]) (rest := []) (W1 := (wSp cy xa sa sb tr na ka z1)) (W2 := (wSp cy xa sa sb tr na ka z2)) hq hCF gw_L_call.more rfl hq_L_call ⟨Nat.le_of_ble_eq_true rfl, Nat.le_of_ble_eq_true rfl⟩ hG hF hP hD hS hA h_Sp rfl hl.1 rfl (Nat.le_of_ble_eq_true rfl) dL_refuses_294 ⟨by show _ ≤ 100; omega, by show _ ≤ 600; omega⟩ (fun H locs hP hD hS => ?_)
  refine lv_ldc (v := (-9999001 : Int32)) hx hb hown (hts _ (List.mem_cons_of_mem _ gc_15)) dL_refuses_297 ?_
  refine lv_icmp_ne (tgt := 446) hx hb dL_refuses_299 (by decide) (fun q => absurd rfl q) (fun _ => ?_)
  refine lv_aload_n hx hb dL_refuses_302 rfl (lv_at hl 2 rfl) ?_
  refine lv_bipush (v := (9 : Int32)) hx hb dL_refuses_303 (by decide) ?_
  refine lv_iload_n hx hb dL_refuses_305 rfl (lv_at hl 1 rfl) ?_
  refine lv_iload_n hx hb dL_refuses_306 rfl (lv_at hl 3 rfl) ?_
  refine lv_bipush (v := (9 : Int32)) hx hb dL_refuses_307 (by decide) ?_
  refine lv_irem hx hb dL_refuses_309 (by decide) ?_
  refine lv_iadd hx hb dL_refuses_310 ?_
  refine lv_iconst (v := (0 : Int32)) hx hb dL_refuses_311 (by decide) ?_
  refine lv_iconst (v := (0 : Int32)) hx hb dL_refuses_312 (by decide) ?_
  obtain ⟨z3, o3, hq⟩ := cn_9 l hl0 D cy t xa sa sb tr na ka o2 ((uN (sU (pN z))) + (rmJ x (9 : Int32))) (0 : Int32) (0 : Int32) (v := (-9999001)) (r1_9 (f_bring1 (no_has (Or.inr (by rw [o2.2.2.1.1]; have := rmJ_9 hx0; rw [i32_add (by have := u16.1; omega) (by have := u16.2; omega)]; omega)))))
  refine hwS (A0 := A) (As := [.ref (xa 0), .int (9 : Int32), .int ((uN (sU (pN z))) + (rmJ x (9 : Int32))), .int (0 : Int32), .int (0 : Int32)]) (rest := []) (W1 := (wSp cy xa sa sb tr na ka z2)) (W2 := (wSp cy xa sa sb tr na ka z3)) hq hCF gw_L_call.more rfl hq_L_call ⟨Nat.le_of_ble_eq_true rfl, Nat.le_of_ble_eq_true rfl⟩ hG hF hP hD hS hA h_Sp rfl hl.1 rfl (Nat.le_of_ble_eq_true rfl) dL_refuses_313 ⟨by show _ ≤ 100; omega, by show _ ≤ 600; omega⟩ (fun H locs hP hD hS => ?_)
  refine lv_ldc (v := (-9999001 : Int32)) hx hb hown (hts _ (List.mem_cons_of_mem _ gc_15)) dL_refuses_316 ?_
  refine lv_icmp_ne (tgt := 446) hx hb dL_refuses_318 (by decide) (fun q => absurd rfl q) (fun _ => ?_)
  refine lv_aload_n hx hb dL_refuses_321 rfl (lv_at hl 2 rfl) ?_
  refine lv_bipush (v := (10 : Int32)) hx hb dL_refuses_322 (by decide) ?_
  refine lv_iconst (v := (0 : Int32)) hx hb dL_refuses_324 (by decide) ?_
  refine lv_iload_n hx hb dL_refuses_325 rfl (lv_at hl 1 rfl) ?_
  refine lv_iconst (v := (0 : Int32)) hx hb dL_refuses_326 (by decide) ?_
  obtain ⟨z4, o4, hq⟩ := cn_10 l hl0 D cy t xa sa sb tr na ka o3 (0 : Int32) (uN (sU (pN z))) (0 : Int32) (v := (-9999001)) (r1_10 (f_exchange1 (Or.inr (by rw [o3.2.2.1.1]; exact nh))))
  refine hwS (A0 := A) (As := [.ref (xa 0), .int (10 : Int32), .int (0 : Int32), .int (uN (sU (pN z))), .int (0 : Int32)]) (rest := []) (W1 := (wSp cy xa sa sb tr na ka z3)) (W2 := (wSp cy xa sa sb tr na ka z4)) hq hCF gw_L_call.more rfl hq_L_call ⟨Nat.le_of_ble_eq_true rfl, Nat.le_of_ble_eq_true rfl⟩ hG hF hP hD hS hA h_Sp rfl hl.1 rfl (Nat.le_of_ble_eq_true rfl) dL_refuses_327 ⟨by show _ ≤ 100; omega, by show _ ≤ 600; omega⟩ (fun H locs hP hD hS => ?_)
  refine lv_ldc (v := (-9999001 : Int32)) hx hb hown (hts _ (List.mem_cons_of_mem _ gc_15)) dL_refuses_330 ?_
  refine lv_icmp_ne (tgt := 446) hx hb dL_refuses_332 (by decide) (fun q => absurd rfl q) (fun _ => ?_)
  refine lv_aload_n hx hb dL_refuses_335 rfl (lv_at hl 2 rfl) ?_
  refine lv_bipush (v := (11 : Int32)) hx hb dL_refuses_336 (by decide) ?_
  refine lv_iconst (v := (5 : Int32)) hx hb dL_refuses_338 (by decide) ?_
  refine lv_iconst (v := (0 : Int32)) hx hb dL_refuses_339 (by decide) ?_
  refine lv_iconst (v := (0 : Int32)) hx hb dL_refuses_340 (by decide) ?_
  obtain ⟨z5, o5, hq⟩ := cn_11 l hl0 D cy t xa sa sb tr na ka o4 (5 : Int32) (0 : Int32) (0 : Int32) (v := (-9999001)) (r1_11 (f_advance1 (Or.inl (no_hold (by decide)))))
  refine hwS (A0 := A) (As := [.ref (xa 0), .int (11 : Int32), .int (5 : Int32), .int (0 : Int32), .int (0 : Int32)]) (rest := []) (W1 := (wSp cy xa sa sb tr na ka z4)) (W2 := (wSp cy xa sa sb tr na ka z5)) hq hCF gw_L_call.more rfl hq_L_call ⟨Nat.le_of_ble_eq_true rfl, Nat.le_of_ble_eq_true rfl⟩ hG hF hP hD hS hA h_Sp rfl hl.1 rfl (Nat.le_of_ble_eq_true rfl) dL_refuses_341 ⟨by show _ ≤ 100; omega, by show _ ≤ 600; omega⟩ (fun H locs hP hD hS => ?_)
  refine lv_ldc (v := (-9999001 : Int32)) hx hb hown (hts _ (List.mem_cons_of_mem _ gc_15)) dL_refuses_344 ?_
  refine lv_icmp_ne (tgt := 446) hx hb dL_refuses_346 (by decide) (fun q => absurd rfl q) (fun _ => ?_)
  refine lv_aload_n hx hb dL_refuses_349 rfl (lv_at hl 2 rfl) ?_
  refine lv_bipush (v := (11 : Int32)) hx hb dL_refuses_350 (by decide) ?_
  refine lv_iconst (v := (0 : Int32)) hx hb dL_refuses_352 (by decide) ?_
  refine lv_iload_n hx hb dL_refuses_353 rfl (lv_at hl 1 rfl) ?_
  refine lv_iconst (v := (0 : Int32)) hx hb dL_refuses_354 (by decide) ?_
  obtain ⟨z6, o6, hq⟩ := cn_11 l hl0 D cy t xa sa sb tr na ka o5 (0 : Int32) (uN (sU (pN z))) (0 : Int32) (v := (-9999001)) (r1_11 (f_advance1 (Or.inr (by rw [o5.2.2.1.1]; exact nh))))
  refine hwS (A0 := A) (As := [.ref (xa 0), .int (11 : Int32), .int (0 : Int32), .int (uN (sU (pN z))), .int (0 : Int32)]) (rest := []) (W1 := (wSp cy xa sa sb tr na ka z5)) (W2 := (wSp cy xa sa sb tr na ka z6)) hq hCF gw_L_call.more rfl hq_L_call ⟨Nat.le_of_ble_eq_true rfl, Nat.le_of_ble_eq_true rfl⟩ hG hF hP hD hS hA h_Sp rfl hl.1 rfl (Nat.le_of_ble_eq_true rfl) dL_refuses_355 ⟨by show _ ≤ 100; omega, by show _ ≤ 600; omega⟩ (fun H locs hP hD hS => ?_)
  refine lv_ldc (v := (-9999001 : Int32)) hx hb hown (hts _ (List.mem_cons_of_mem _ gc_15)) dL_refuses_358 ?_
  refine lv_icmp_ne (tgt := 446) hx hb dL_refuses_360 (by decide) (fun q => absurd rfl q) (fun _ => ?_)
  refine lv_aload_n hx hb dL_refuses_363 rfl (lv_at hl 2 rfl) ?_
  refine lv_bipush (v := (12 : Int32)) hx hb dL_refuses_364 (by decide) ?_
  refine lv_iconst (v := (-1 : Int32)) hx hb dL_refuses_366 (by decide) ?_
  refine lv_iload_n hx hb dL_refuses_367 rfl (lv_at hl 3 rfl) ?_
  refine lv_bipush (v := (9 : Int32)) hx hb dL_refuses_368 (by decide) ?_
  refine lv_irem hx hb dL_refuses_370 (by decide) ?_
  refine lv_isub hx hb dL_refuses_371 ?_
  refine lv_iconst (v := (0 : Int32)) hx hb dL_refuses_372 (by decide) ?_
  refine lv_iconst (v := (0 : Int32)) hx hb dL_refuses_373 (by decide) ?_
  obtain ⟨z7, o7, hq⟩ := cn_12 l hl0 D cy t xa sa sb tr na ka o6 ((-1 : Int32) - (rmJ x (9 : Int32))) (0 : Int32) (0 : Int32) (v := (-9999001)) (r1_12 (f_deliver1 (no_has (Or.inl (neg9 hx0)))))
  refine hwS (A0 := A) (As := [.ref (xa 0), .int (12 : Int32), .int ((-1 : Int32) - (rmJ x (9 : Int32))), .int (0 : Int32), .int (0 : Int32)]) (rest := []) (W1 := (wSp cy xa sa sb tr na ka z6)) (W2 := (wSp cy xa sa sb tr na ka z7)) hq hCF gw_L_call.more rfl hq_L_call ⟨Nat.le_of_ble_eq_true rfl, Nat.le_of_ble_eq_true rfl⟩ hG hF hP hD hS hA h_Sp rfl hl.1 rfl (Nat.le_of_ble_eq_true rfl) dL_refuses_374 ⟨by show _ ≤ 100; omega, by show _ ≤ 600; omega⟩ (fun H locs hP hD hS => ?_)
  refine lv_ldc (v := (-9999001 : Int32)) hx hb hown (hts _ (List.mem_cons_of_mem _ gc_15)) dL_refuses_377 ?_
  refine lv_icmp_ne (tgt := 446) hx hb dL_refuses_379 (by decide) (fun q => absurd rfl q) (fun _ => ?_)
  refine lv_aload_n hx hb dL_refuses_382 rfl (lv_at hl 2 rfl) ?_
  refine lv_bipush (v := (13 : Int32)) hx hb dL_refuses_383 (by decide) ?_
  refine lv_iconst (v := (0 : Int32)) hx hb dL_refuses_385 (by decide) ?_
  refine lv_iload_n hx hb dL_refuses_386 rfl (lv_at hl 1 rfl) ?_
  refine lv_iconst (v := (0 : Int32)) hx hb dL_refuses_387 (by decide) ?_
  obtain ⟨z8, o8, hq⟩ := cn_13 l hl0 D cy t xa sa sb tr na ka o7 (0 : Int32) (uN (sU (pN z))) (0 : Int32) (v := (-9999001)) (r1_13 (f_take1 (Or.inr (Or.inl (by rw [o7.2.2.1.1]; exact nh)))))
  refine hwS (A0 := A) (As := [.ref (xa 0), .int (13 : Int32), .int (0 : Int32), .int (uN (sU (pN z))), .int (0 : Int32)]) (rest := []) (W1 := (wSp cy xa sa sb tr na ka z7)) (W2 := (wSp cy xa sa sb tr na ka z8)) hq hCF gw_L_call.more rfl hq_L_call ⟨Nat.le_of_ble_eq_true rfl, Nat.le_of_ble_eq_true rfl⟩ hG hF hP hD hS hA h_Sp rfl hl.1 rfl (Nat.le_of_ble_eq_true rfl) dL_refuses_388 ⟨by show _ ≤ 100; omega, by show _ ≤ 600; omega⟩ (fun H locs hP hD hS => ?_)
  refine lv_ldc (v := (-9999001 : Int32)) hx hb hown (hts _ (List.mem_cons_of_mem _ gc_15)) dL_refuses_391 ?_
  refine lv_icmp_ne (tgt := 446) hx hb dL_refuses_393 (by decide) (fun q => absurd rfl q) (fun _ => ?_)
  refine lv_aload_n hx hb dL_refuses_396 rfl (lv_at hl 2 rfl) ?_
  refine lv_iconst (v := (0 : Int32)) hx hb dL_refuses_397 (by decide) ?_
  refine lv_iconst (v := (0 : Int32)) hx hb dL_refuses_398 (by decide) ?_
  refine lv_iconst (v := (3 : Int32)) hx hb dL_refuses_399 (by decide) ?_
  refine lv_iconst (v := (0 : Int32)) hx hb dL_refuses_400 (by decide) ?_
  obtain ⟨z9, o9, hq⟩ := cn_settle l hl0 D cy t xa sa sb tr na ka o8 (0 : Int32) (0 : Int32) (3 : Int32) (0 : Int32) (k := 1) (v := -9999001) (f_settle1 (Or.inr (Or.inr (Or.inl (no_kind (by decide)))))) (Or.inl ⟨rfl, rfl⟩)
  refine hwSW (A0 := A) (As := [.ref (xa 0), .int (0 : Int32), .int (0 : Int32), .int (3 : Int32), .int (0 : Int32)]) (rest := []) (W1 := (wSp cy xa sa sb tr na ka z8)) (W2 := (wSp cy xa sa sb tr na ka z9)) hq hCF gw_L_trySettle.more rfl hq_L_trySettle ⟨Nat.le_of_ble_eq_true rfl, Nat.le_of_ble_eq_true rfl⟩ hG hF hP hD hS hA h_Sp rfl hl.1 rfl (Nat.le_of_ble_eq_true rfl) dL_refuses_401 ⟨by show _ ≤ 100; omega, by show _ ≤ 600; omega⟩ (fun H locs hP hD hS => ?_)
  refine lv_ldc (v := (-9999001 : Int32)) hx hb hown (hts _ (List.mem_cons_of_mem _ gc_15)) dL_refuses_404 ?_
  refine lv_icmp_ne (tgt := 446) hx hb dL_refuses_406 (by decide) (fun q => absurd rfl q) (fun _ => ?_)
  refine lv_aload_n hx hb dL_refuses_409 rfl (lv_at hl 2 rfl) ?_
  refine lv_iload_n hx hb dL_refuses_410 rfl (lv_at hl 3 rfl) ?_
  refine lv_iconst (v := (5 : Int32)) hx hb dL_refuses_411 (by decide) ?_
  refine lv_irem hx hb dL_refuses_412 (by decide) ?_
  refine lv_iload_n hx hb dL_refuses_413 rfl (lv_at hl 3 rfl) ?_
  refine lv_iconst (v := (5 : Int32)) hx hb dL_refuses_414 (by decide) ?_
  refine lv_irem hx hb dL_refuses_415 (by decide) ?_
  refine lv_iload_n hx hb dL_refuses_416 rfl (lv_at hl 3 rfl) ?_
  refine lv_iconst (v := (3 : Int32)) hx hb dL_refuses_417 (by decide) ?_
  refine lv_irem hx hb dL_refuses_418 (by decide) ?_
  refine lv_iconst (v := (0 : Int32)) hx hb dL_refuses_419 (by decide) ?_
  obtain ⟨z10, o10, hq⟩ := cn_settle l hl0 D cy t xa sa sb tr na ka o9 (rmJ x 5) (rmJ x 5) (rmJ x 3) (0 : Int32) (k := 3) (v := -9999003) (f_settle3 (T := T) (by rw [o9.2.2.1.1]; exact g) (rmJ_5 hx0) (rmJ_3 hx0) ⟨by decide, by decide⟩) (Or.inr ⟨rfl, rfl⟩)
  refine hwSW (A0 := A) (As := [.ref (xa 0), .int (rmJ x (5 : Int32)), .int (rmJ x (5 : Int32)), .int (rmJ x (3 : Int32)), .int (0 : Int32)]) (rest := []) (W1 := (wSp cy xa sa sb tr na ka z9)) (W2 := (wSp cy xa sa sb tr na ka z10)) hq hCF gw_L_trySettle.more rfl hq_L_trySettle ⟨Nat.le_of_ble_eq_true rfl, Nat.le_of_ble_eq_true rfl⟩ hG hF hP hD hS hA h_Sp rfl hl.1 rfl (Nat.le_of_ble_eq_true rfl) dL_refuses_420 ⟨by show _ ≤ 100; omega, by show _ ≤ 600; omega⟩ (fun H locs hP hD hS => ?_)
  refine lv_ldc (v := (-9999003 : Int32)) hx hb hown (hts _ (List.mem_cons_of_mem _ gc_21)) dL_refuses_423 ?_
  refine lv_icmp_ne (tgt := 446) hx hb dL_refuses_425 (by decide) (fun q => absurd rfl q) (fun _ => ?_)
  refine lv_aload_n hx hb dL_refuses_428 rfl (lv_at hl 2 rfl) ?_
  refine lv_bipush (v := (14 : Int32)) hx hb dL_refuses_429 (by decide) ?_
  refine lv_iload_n hx hb dL_refuses_431 rfl (lv_at hl 1 rfl) ?_
  refine lv_iconst (v := (0 : Int32)) hx hb dL_refuses_432 (by decide) ?_
  refine lv_iconst (v := (0 : Int32)) hx hb dL_refuses_433 (by decide) ?_
  obtain ⟨z11, o11, hq⟩ := cn_14 l hl0 D cy t xa sa sb tr na ka o10 (uN (sU (pN z))) (0 : Int32) (0 : Int32) (v := (-9999001)) (r1_14 (f_buy1 (Or.inl (by rw [o10.2.2.1.1]; exact nh))))
  refine hwS (A0 := A) (As := [.ref (xa 0), .int (14 : Int32), .int (uN (sU (pN z))), .int (0 : Int32), .int (0 : Int32)]) (rest := []) (W1 := (wSp cy xa sa sb tr na ka z10)) (W2 := (wSp cy xa sa sb tr na ka z11)) hq hCF gw_L_call.more rfl hq_L_call ⟨Nat.le_of_ble_eq_true rfl, Nat.le_of_ble_eq_true rfl⟩ hG hF hP hD hS hA h_Sp rfl hl.1 rfl (Nat.le_of_ble_eq_true rfl) dL_refuses_434 ⟨by show _ ≤ 100; omega, by show _ ≤ 600; omega⟩ (fun H locs hP hD hS => ?_)
  refine lv_ldc (v := (-9999001 : Int32)) hx hb hown (hts _ (List.mem_cons_of_mem _ gc_15)) dL_refuses_437 ?_
  refine lv_icmp_ne (tgt := 446) hx hb dL_refuses_439 (by decide) (fun q => absurd rfl q) (fun _ => ?_)
  refine lv_iconst (v := (1 : Int32)) hx hb dL_refuses_442 (by decide) ?_
  refine lv_goto (tgt := 447) hx hb dL_refuses_443 (by decide) ?_
  refine lv_istore_n (lv' := [(3, .int (1 : Int32)), (2, .int (uN (sU (pN z)))), (0, .ref (xa 0)), (1, .int x)]) hx hb dL_refuses_447 rfl hl (by decide) rfl (fun ls hl => ?_)
  refine W.widen (k := cells + 10) (n := slots + 60) (by omega) (by omega) ?_
  exact kk _ _ _ z11 hl o11 hP hD hS
set_option maxRecDepth 20000 in
theorem w_ref5 {p : Program} {l : Launch} {e : Env} {s : State} {m : MethodId} {below : List Frame} {meth : Method} {c : Code} {D : va_G} {cy : Nat → ClassId} {t : FxA} {A : Nat → Prop} {Q : State → Prop} {xa sa sb tr na : Nat → Nat} {ka : Nat → Nat → Nat} {z : SpT} {x : Int32} (C0 : LR p l s m meth c ([.ref (xa 0), .int x] : List Value).toArray cL_refuses 8 wc_refuses (some .boolean) D cy t A) (hx0 : 0 ≤ x.toInt) (h0 : OKz z) {T : Int} (g : SG T (pN z)) {cells slots : Nat} (hc : cells + 13 ≤ 100) (hs : slots + 78 ≤ 600) {H : Heap} {locs : List Loc} {ls : Array Slot} {z1 : SpT} (hl : lv_has ls 8 [(3, .int (1 : Int32)), (2, .int (uN (sU (pN z)))), (0, .ref (xa 0)), (1, .int x)]) (o1 : OKz z1 ∧ VIS z z1) (hP : va_P D vwCl (wSp cy xa sa sb tr na ka z1) H) (hD : va_D A (wSp cy xa sa sb tr na ka z1)) (hS : va_S A s.heap H locs)
    (kk : ∀ (ls : Array Slot) (H : Heap) (locs : List Loc) (z2 : SpT), lv_has ls 8 [(3, .int (1 : Int32)), (2, .int (uN (sU (pN z)))), (0, .ref (xa 0)), (1, .int x)] → (OKz z2 ∧ VIS z z2) → va_P D vwCl (wSp cy xa sa sb tr na ka z2) H → va_D A (wSp cy xa sa sb tr na ka z2) → va_S A s.heap H locs → @Wx p l e ({ frames := 10, cells := 100, slots := 600, locals := 300 } : Room) s m ([.ref (xa 0), .int x] : List Value).toArray below meth c H locs (cells + 13) (slots + 78) Q (F0 m 682 ls [])) : @Wx p l e ({ frames := 10, cells := 100, slots := 600, locals := 300 } : Room) s m ([.ref (xa 0), .int x] : List Value).toArray below meth c H locs cells slots Q (F0 m 448 ls []) := by
  obtain ⟨hx, hb, hr, hlocks, hts, hown, hCF, hG, hF, hA, hl0⟩ := C0
  have u16 := h0.st.1
  have nh : m_X7_has (sU (pN z)) (uN (sU (pN z))) = 0 := no_has (Or.inr (Int.le_refl _))
  refine lv_iload_n hx hb dL_refuses_448 rfl (lv_at hl 0 rfl) ?_
  refine lv_if_eq (tgt := 680) hx hb dL_refuses_449 (by decide) (fun q => absurd q (by decide)) (fun _ => ?_)
  refine lv_aload_n hx hb dL_refuses_452 rfl (lv_at hl 2 rfl) ?_
  refine lv_bipush (v := (15 : Int32)) hx hb dL_refuses_453 (by decide) ?_
  refine lv_iconst (v := (0 : Int32)) hx hb dL_refuses_455 (by decide) ?_
  refine lv_iconst (v := (0 : Int32)) hx hb dL_refuses_456 (by decide) ?_
  refine lv_iconst (v := (0 : Int32)) hx hb dL_refuses_457 (by decide) ?_
  obtain ⟨z2, o2, hq⟩ := cn_15 l hl0 D cy t xa sa sb tr na ka o1 (0 : Int32) (0 : Int32) (0 : Int32) (v := (-9999002)) (r2_15 (f_days (Or.inl (by decide))))
  refine hwS (A0 := A) (As := [.ref (xa 0), .int (15 : Int32), .int (0 : Int32), .int (0 : Int32), .int (0 : Int32)]) (rest := []) (W1 := (wSp cy xa sa sb tr na ka z1)) (W2 := (wSp cy xa sa sb tr na ka z2)) hq hCF gw_L_call.more rfl hq_L_call ⟨Nat.le_of_ble_eq_true rfl, Nat.le_of_ble_eq_true rfl⟩ hG hF hP hD hS hA h_Sp rfl hl.1 rfl (Nat.le_of_ble_eq_true rfl) dL_refuses_458 ⟨by show _ ≤ 100; omega, by show _ ≤ 600; omega⟩ (fun H locs hP hD hS => ?_)
  refine lv_ldc (v := (-9999002 : Int32)) hx hb hown (hts _ (List.mem_cons_of_mem _ gc_28)) dL_refuses_461 ?_
  refine lv_icmp_ne (tgt := 680) hx hb dL_refuses_463 (by decide) (fun q => absurd rfl q) (fun _ => ?_)
  refine lv_aload_n hx hb dL_refuses_466 rfl (lv_at hl 2 rfl) ?_
  refine lv_bipush (v := (15 : Int32)) hx hb dL_refuses_467 (by decide) ?_
  refine lv_bipush (v := (100 : Int32)) hx hb dL_refuses_469 (by decide) ?_
  refine lv_iload_n hx hb dL_refuses_471 rfl (lv_at hl 3 rfl) ?_
  refine lv_bipush (v := (9 : Int32)) hx hb dL_refuses_472 (by decide) ?_
  refine lv_irem hx hb dL_refuses_474 (by decide) ?_
  refine lv_iadd hx hb dL_refuses_475 ?_
  refine lv_iconst (v := (0 : Int32)) hx hb dL_refuses_476 (by decide) ?_
  refine lv_iconst (v := (0 : Int32)) hx hb dL_refuses_477 (by decide) ?_
  obtain ⟨z3, o3, hq⟩ := cn_15 l hl0 D cy t xa sa sb tr na ka o2 ((100 : Int32) + (rmJ x (9 : Int32))) (0 : Int32) (0 : Int32) (v := (-9999002)) (r2_15 (f_days (Or.inr (by have := add9 (k := (100 : Int32)) hx0 (K := 100) (by decide) (by decide); omega))))
  refine hwS (A0 := A) (As := [.ref (xa 0), .int (15 : Int32), .int ((100 : Int32) + (rmJ x (9 : Int32))), .int (0 : Int32), .int (0 : Int32)]) (rest := []) (W1 := (wSp cy xa sa sb tr na ka z2)) (W2 := (wSp cy xa sa sb tr na ka z3)) hq hCF gw_L_call.more rfl hq_L_call ⟨Nat.le_of_ble_eq_true rfl, Nat.le_of_ble_eq_true rfl⟩ hG hF hP hD hS hA h_Sp rfl hl.1 rfl (Nat.le_of_ble_eq_true rfl) dL_refuses_478 ⟨by show _ ≤ 100; omega, by show _ ≤ 600; omega⟩ (fun H locs hP hD hS => ?_)
  refine lv_ldc (v := (-9999002 : Int32)) hx hb hown (hts _ (List.mem_cons_of_mem _ gc_28)) dL_refuses_481 ?_
  refine lv_icmp_ne (tgt := 680) hx hb dL_refuses_483 (by decide) (fun q => absurd rfl q) (fun _ => ?_)
  refine lv_aload_n hx hb dL_refuses_486 rfl (lv_at hl 2 rfl) ?_
  refine lv_bipush (v := (16 : Int32)) hx hb dL_refuses_487 (by decide) ?_
  refine lv_iconst (v := (0 : Int32)) hx hb dL_refuses_489 (by decide) ?_
  refine lv_bipush (v := (100 : Int32)) hx hb dL_refuses_490 (by decide) ?_
  refine lv_iload_n hx hb dL_refuses_492 rfl (lv_at hl 3 rfl) ?_
  refine lv_bipush (v := (9 : Int32)) hx hb dL_refuses_493 (by decide) ?_
  refine lv_irem hx hb dL_refuses_495 (by decide) ?_
  refine lv_iadd hx hb dL_refuses_496 ?_
  refine lv_iconst (v := (0 : Int32)) hx hb dL_refuses_497 (by decide) ?_
  obtain ⟨z4, o4, hq⟩ := cn_16 l hl0 D cy t xa sa sb tr na ka o3 (0 : Int32) ((100 : Int32) + (rmJ x (9 : Int32))) (0 : Int32) (v := (-9999002)) (r2_16 (f_set (Or.inr (Or.inr (by have := add9 (k := (100 : Int32)) hx0 (K := 100) (by decide) (by decide); have : (fxM (0 : Int32).toNatClampNeg).toInt = 99 := (by decide); omega)))))
  refine hwS (A0 := A) (As := [.ref (xa 0), .int (16 : Int32), .int (0 : Int32), .int ((100 : Int32) + (rmJ x (9 : Int32))), .int (0 : Int32)]) (rest := []) (W1 := (wSp cy xa sa sb tr na ka z3)) (W2 := (wSp cy xa sa sb tr na ka z4)) hq hCF gw_L_call.more rfl hq_L_call ⟨Nat.le_of_ble_eq_true rfl, Nat.le_of_ble_eq_true rfl⟩ hG hF hP hD hS hA h_Sp rfl hl.1 rfl (Nat.le_of_ble_eq_true rfl) dL_refuses_498 ⟨by show _ ≤ 100; omega, by show _ ≤ 600; omega⟩ (fun H locs hP hD hS => ?_)
  refine lv_ldc (v := (-9999002 : Int32)) hx hb hown (hts _ (List.mem_cons_of_mem _ gc_28)) dL_refuses_501 ?_
  refine lv_icmp_ne (tgt := 680) hx hb dL_refuses_503 (by decide) (fun q => absurd rfl q) (fun _ => ?_)
  refine lv_aload_n hx hb dL_refuses_506 rfl (lv_at hl 2 rfl) ?_
  refine lv_bipush (v := (16 : Int32)) hx hb dL_refuses_507 (by decide) ?_
  refine lv_iconst (v := (1 : Int32)) hx hb dL_refuses_509 (by decide) ?_
  refine lv_iload_n hx hb dL_refuses_510 rfl (lv_at hl 3 rfl) ?_
  refine lv_iconst (v := (2 : Int32)) hx hb dL_refuses_511 (by decide) ?_
  refine lv_irem hx hb dL_refuses_512 (by decide) ?_
  refine lv_iadd hx hb dL_refuses_513 ?_
  refine lv_sipush (v := (1000 : Int32)) hx hb dL_refuses_514 (by decide) ?_
  refine lv_iload_n hx hb dL_refuses_517 rfl (lv_at hl 3 rfl) ?_
  refine lv_bipush (v := (9 : Int32)) hx hb dL_refuses_518 (by decide) ?_
  refine lv_irem hx hb dL_refuses_520 (by decide) ?_
  refine lv_iadd hx hb dL_refuses_521 ?_
  refine lv_iconst (v := (0 : Int32)) hx hb dL_refuses_522 (by decide) ?_
  obtain ⟨z5, o5, hq⟩ := cn_16 l hl0 D cy t xa sa sb tr na ka o4 ((1 : Int32) + (rmJ x (2 : Int32))) ((1000 : Int32) + (rmJ x (9 : Int32))) (0 : Int32) (v := (-9999002)) (r2_16 (f_set (Or.inr (Or.inr (by have := add9 (k := (1000 : Int32)) hx0 (K := 1000) (by decide) (by decide); have := fx12 hx0; omega)))))
  refine hwS (A0 := A) (As := [.ref (xa 0), .int (16 : Int32), .int ((1 : Int32) + (rmJ x (2 : Int32))), .int ((1000 : Int32) + (rmJ x (9 : Int32))), .int (0 : Int32)]) (rest := []) (W1 := (wSp cy xa sa sb tr na ka z4)) (W2 := (wSp cy xa sa sb tr na ka z5)) hq hCF gw_L_call.more rfl hq_L_call ⟨Nat.le_of_ble_eq_true rfl, Nat.le_of_ble_eq_true rfl⟩ hG hF hP hD hS hA h_Sp rfl hl.1 rfl (Nat.le_of_ble_eq_true rfl) dL_refuses_523 ⟨by show _ ≤ 100; omega, by show _ ≤ 600; omega⟩ (fun H locs hP hD hS => ?_)
  refine lv_ldc (v := (-9999002 : Int32)) hx hb hown (hts _ (List.mem_cons_of_mem _ gc_28)) dL_refuses_526 ?_
  refine lv_icmp_ne (tgt := 680) hx hb dL_refuses_528 (by decide) (fun q => absurd rfl q) (fun _ => ?_)
  refine lv_aload_n hx hb dL_refuses_531 rfl (lv_at hl 2 rfl) ?_
  refine lv_bipush (v := (16 : Int32)) hx hb dL_refuses_532 (by decide) ?_
  refine lv_iconst (v := (3 : Int32)) hx hb dL_refuses_534 (by decide) ?_
  refine lv_iconst (v := (0 : Int32)) hx hb dL_refuses_535 (by decide) ?_
  refine lv_iconst (v := (0 : Int32)) hx hb dL_refuses_536 (by decide) ?_
  obtain ⟨z6, o6, hq⟩ := cn_16 l hl0 D cy t xa sa sb tr na ka o5 (3 : Int32) (0 : Int32) (0 : Int32) (v := (-9999002)) (r2_16 (f_set (Or.inl (no_setting (by decide)))))
  refine hwS (A0 := A) (As := [.ref (xa 0), .int (16 : Int32), .int (3 : Int32), .int (0 : Int32), .int (0 : Int32)]) (rest := []) (W1 := (wSp cy xa sa sb tr na ka z5)) (W2 := (wSp cy xa sa sb tr na ka z6)) hq hCF gw_L_call.more rfl hq_L_call ⟨Nat.le_of_ble_eq_true rfl, Nat.le_of_ble_eq_true rfl⟩ hG hF hP hD hS hA h_Sp rfl hl.1 rfl (Nat.le_of_ble_eq_true rfl) dL_refuses_537 ⟨by show _ ≤ 100; omega, by show _ ≤ 600; omega⟩ (fun H locs hP hD hS => ?_)
  refine lv_ldc (v := (-9999002 : Int32)) hx hb hown (hts _ (List.mem_cons_of_mem _ gc_28)) dL_refuses_540 ?_
  refine lv_icmp_ne (tgt := 680) hx hb dL_refuses_542 (by decide) (fun q => absurd rfl q) (fun _ => ?_)
  refine lv_aload_n hx hb dL_refuses_545 rfl (lv_at hl 2 rfl) ?_
  refine lv_bipush (v := (18 : Int32)) hx hb dL_refuses_546 (by decide) ?_
  refine lv_iconst (v := (5 : Int32)) hx hb dL_refuses_548 (by decide) ?_
  refine lv_iconst (v := (0 : Int32)) hx hb dL_refuses_549 (by decide) ?_
  refine lv_iconst (v := (0 : Int32)) hx hb dL_refuses_550 (by decide) ?_
  obtain ⟨z7, o7, hq⟩ := cn_18 l hl0 D cy t xa sa sb tr na ka o6 (5 : Int32) (0 : Int32) (0 : Int32) (v := (-9999001)) (r1_18 (f_complete (Or.inl (no_hold (by decide)))))
  refine hwS (A0 := A) (As := [.ref (xa 0), .int (18 : Int32), .int (5 : Int32), .int (0 : Int32), .int (0 : Int32)]) (rest := []) (W1 := (wSp cy xa sa sb tr na ka z6)) (W2 := (wSp cy xa sa sb tr na ka z7)) hq hCF gw_L_call.more rfl hq_L_call ⟨Nat.le_of_ble_eq_true rfl, Nat.le_of_ble_eq_true rfl⟩ hG hF hP hD hS hA h_Sp rfl hl.1 rfl (Nat.le_of_ble_eq_true rfl) dL_refuses_551 ⟨by show _ ≤ 100; omega, by show _ ≤ 600; omega⟩ (fun H locs hP hD hS => ?_)
  refine lv_ldc (v := (-9999001 : Int32)) hx hb hown (hts _ (List.mem_cons_of_mem _ gc_15)) dL_refuses_554 ?_
  refine lv_icmp_ne (tgt := 680) hx hb dL_refuses_556 (by decide) (fun q => absurd rfl q) (fun _ => ?_)
  refine lv_aload_n hx hb dL_refuses_559 rfl (lv_at hl 2 rfl) ?_
  refine lv_bipush (v := (19 : Int32)) hx hb dL_refuses_560 (by decide) ?_
  refine lv_iconst (v := (0 : Int32)) hx hb dL_refuses_562 (by decide) ?_
  refine lv_iconst (v := (3 : Int32)) hx hb dL_refuses_563 (by decide) ?_
  refine lv_iconst (v := (0 : Int32)) hx hb dL_refuses_564 (by decide) ?_
  obtain ⟨z8, o8, hq⟩ := cn_19 l hl0 D cy t xa sa sb tr na ka o7 (0 : Int32) (3 : Int32) (0 : Int32) (v := (-9999001)) (r1_19 (f_takings (Or.inr (no_kind (by decide)))))
  refine hwS (A0 := A) (As := [.ref (xa 0), .int (19 : Int32), .int (0 : Int32), .int (3 : Int32), .int (0 : Int32)]) (rest := []) (W1 := (wSp cy xa sa sb tr na ka z7)) (W2 := (wSp cy xa sa sb tr na ka z8)) hq hCF gw_L_call.more rfl hq_L_call ⟨Nat.le_of_ble_eq_true rfl, Nat.le_of_ble_eq_true rfl⟩ hG hF hP hD hS hA h_Sp rfl hl.1 rfl (Nat.le_of_ble_eq_true rfl) dL_refuses_565 ⟨by show _ ≤ 100; omega, by show _ ≤ 600; omega⟩ (fun H locs hP hD hS => ?_)
  refine lv_ldc (v := (-9999001 : Int32)) hx hb hown (hts _ (List.mem_cons_of_mem _ gc_15)) dL_refuses_568 ?_
  refine lv_icmp_ne (tgt := 680) hx hb dL_refuses_570 (by decide) (fun q => absurd rfl q) (fun _ => ?_)
  refine lv_aload_n hx hb dL_refuses_573 rfl (lv_at hl 2 rfl) ?_
  refine lv_bipush (v := (20 : Int32)) hx hb dL_refuses_574 (by decide) ?_
  refine lv_iconst (v := (5 : Int32)) hx hb dL_refuses_576 (by decide) ?_
  refine lv_iconst (v := (0 : Int32)) hx hb dL_refuses_577 (by decide) ?_
  refine lv_iconst (v := (0 : Int32)) hx hb dL_refuses_578 (by decide) ?_
  obtain ⟨z9, o9, hq⟩ := cn_20 l hl0 D cy t xa sa sb tr na ka o8 (5 : Int32) (0 : Int32) (0 : Int32) (v := (-9999001)) (r1_20 (f_bill1 (no_hold (by decide))))
  refine hwS (A0 := A) (As := [.ref (xa 0), .int (20 : Int32), .int (5 : Int32), .int (0 : Int32), .int (0 : Int32)]) (rest := []) (W1 := (wSp cy xa sa sb tr na ka z8)) (W2 := (wSp cy xa sa sb tr na ka z9)) hq hCF gw_L_call.more rfl hq_L_call ⟨Nat.le_of_ble_eq_true rfl, Nat.le_of_ble_eq_true rfl⟩ hG hF hP hD hS hA h_Sp rfl hl.1 rfl (Nat.le_of_ble_eq_true rfl) dL_refuses_579 ⟨by show _ ≤ 100; omega, by show _ ≤ 600; omega⟩ (fun H locs hP hD hS => ?_)
  refine lv_ldc (v := (-9999001 : Int32)) hx hb hown (hts _ (List.mem_cons_of_mem _ gc_15)) dL_refuses_582 ?_
  refine lv_icmp_ne (tgt := 680) hx hb dL_refuses_584 (by decide) (fun q => absurd rfl q) (fun _ => ?_)
  refine lv_aload_n hx hb dL_refuses_587 rfl (lv_at hl 2 rfl) ?_
  refine lv_bipush (v := (20 : Int32)) hx hb dL_refuses_588 (by decide) ?_
  refine lv_iload_n hx hb dL_refuses_590 rfl (lv_at hl 3 rfl) ?_
  refine lv_iconst (v := (5 : Int32)) hx hb dL_refuses_591 (by decide) ?_
  refine lv_irem hx hb dL_refuses_592 (by decide) ?_
  refine lv_bipush (v := (100 : Int32)) hx hb dL_refuses_593 (by decide) ?_
  refine lv_iload_n hx hb dL_refuses_595 rfl (lv_at hl 3 rfl) ?_
  refine lv_bipush (v := (9 : Int32)) hx hb dL_refuses_596 (by decide) ?_
  refine lv_irem hx hb dL_refuses_598 (by decide) ?_
  refine lv_iadd hx hb dL_refuses_599 ?_
  refine lv_iconst (v := (0 : Int32)) hx hb dL_refuses_600 (by decide) ?_
  obtain ⟨z10, o10, hq⟩ := cn_20 l hl0 D cy t xa sa sb tr na ka o9 (rmJ x (5 : Int32)) ((100 : Int32) + (rmJ x (9 : Int32))) (0 : Int32) (v := (-9999002)) (r2_20 (f_bill2 (holdI (rmJ_5 hx0)) (Or.inr (by have := add9 (k := (100 : Int32)) hx0 (K := 100) (by decide) (by decide); omega))))
  refine hwS (A0 := A) (As := [.ref (xa 0), .int (20 : Int32), .int (rmJ x (5 : Int32)), .int ((100 : Int32) + (rmJ x (9 : Int32))), .int (0 : Int32)]) (rest := []) (W1 := (wSp cy xa sa sb tr na ka z9)) (W2 := (wSp cy xa sa sb tr na ka z10)) hq hCF gw_L_call.more rfl hq_L_call ⟨Nat.le_of_ble_eq_true rfl, Nat.le_of_ble_eq_true rfl⟩ hG hF hP hD hS hA h_Sp rfl hl.1 rfl (Nat.le_of_ble_eq_true rfl) dL_refuses_601 ⟨by show _ ≤ 100; omega, by show _ ≤ 600; omega⟩ (fun H locs hP hD hS => ?_)
  refine lv_ldc (v := (-9999002 : Int32)) hx hb hown (hts _ (List.mem_cons_of_mem _ gc_28)) dL_refuses_604 ?_
  refine lv_icmp_ne (tgt := 680) hx hb dL_refuses_606 (by decide) (fun q => absurd rfl q) (fun _ => ?_)
  refine lv_aload_n hx hb dL_refuses_609 rfl (lv_at hl 2 rfl) ?_
  refine lv_bipush (v := (21 : Int32)) hx hb dL_refuses_610 (by decide) ?_
  refine lv_iconst (v := (0 : Int32)) hx hb dL_refuses_612 (by decide) ?_
  refine lv_iconst (v := (-1 : Int32)) hx hb dL_refuses_613 (by decide) ?_
  refine lv_iload_n hx hb dL_refuses_614 rfl (lv_at hl 3 rfl) ?_
  refine lv_bipush (v := (9 : Int32)) hx hb dL_refuses_615 (by decide) ?_
  refine lv_irem hx hb dL_refuses_617 (by decide) ?_
  refine lv_isub hx hb dL_refuses_618 ?_
  refine lv_iconst (v := (0 : Int32)) hx hb dL_refuses_619 (by decide) ?_
  obtain ⟨z11, o11, hq⟩ := cn_21 l hl0 D cy t xa sa sb tr na ka o10 (0 : Int32) ((-1 : Int32) - (rmJ x (9 : Int32))) (0 : Int32) (v := (-9999001)) (r1_21 (f_cheapest (Or.inr (no_kind (Or.inl (neg9 hx0))))))
  refine hwS (A0 := A) (As := [.ref (xa 0), .int (21 : Int32), .int (0 : Int32), .int ((-1 : Int32) - (rmJ x (9 : Int32))), .int (0 : Int32)]) (rest := []) (W1 := (wSp cy xa sa sb tr na ka z10)) (W2 := (wSp cy xa sa sb tr na ka z11)) hq hCF gw_L_call.more rfl hq_L_call ⟨Nat.le_of_ble_eq_true rfl, Nat.le_of_ble_eq_true rfl⟩ hG hF hP hD hS hA h_Sp rfl hl.1 rfl (Nat.le_of_ble_eq_true rfl) dL_refuses_620 ⟨by show _ ≤ 100; omega, by show _ ≤ 600; omega⟩ (fun H locs hP hD hS => ?_)
  refine lv_ldc (v := (-9999001 : Int32)) hx hb hown (hts _ (List.mem_cons_of_mem _ gc_15)) dL_refuses_623 ?_
  refine lv_icmp_ne (tgt := 680) hx hb dL_refuses_625 (by decide) (fun q => absurd rfl q) (fun _ => ?_)
  refine lv_aload_n hx hb dL_refuses_628 rfl (lv_at hl 2 rfl) ?_
  refine lv_bipush (v := (22 : Int32)) hx hb dL_refuses_629 (by decide) ?_
  refine lv_iconst (v := (2 : Int32)) hx hb dL_refuses_631 (by decide) ?_
  refine lv_iconst (v := (0 : Int32)) hx hb dL_refuses_632 (by decide) ?_
  refine lv_iconst (v := (0 : Int32)) hx hb dL_refuses_633 (by decide) ?_
  obtain ⟨z12, o12, hq⟩ := cn_22 l hl0 D cy t xa sa sb tr na ka o11 (2 : Int32) (0 : Int32) (0 : Int32) (v := (-9999001)) (r1_22 (f_save (no_slot (by decide))))
  refine hwS (A0 := A) (As := [.ref (xa 0), .int (22 : Int32), .int (2 : Int32), .int (0 : Int32), .int (0 : Int32)]) (rest := []) (W1 := (wSp cy xa sa sb tr na ka z11)) (W2 := (wSp cy xa sa sb tr na ka z12)) hq hCF gw_L_call.more rfl hq_L_call ⟨Nat.le_of_ble_eq_true rfl, Nat.le_of_ble_eq_true rfl⟩ hG hF hP hD hS hA h_Sp rfl hl.1 rfl (Nat.le_of_ble_eq_true rfl) dL_refuses_634 ⟨by show _ ≤ 100; omega, by show _ ≤ 600; omega⟩ (fun H locs hP hD hS => ?_)
  refine lv_ldc (v := (-9999001 : Int32)) hx hb hown (hts _ (List.mem_cons_of_mem _ gc_15)) dL_refuses_637 ?_
  refine lv_icmp_ne (tgt := 680) hx hb dL_refuses_639 (by decide) (fun q => absurd rfl q) (fun _ => ?_)
  refine lv_aload_n hx hb dL_refuses_642 rfl (lv_at hl 2 rfl) ?_
  refine lv_bipush (v := (23 : Int32)) hx hb dL_refuses_643 (by decide) ?_
  refine lv_iconst (v := (-1 : Int32)) hx hb dL_refuses_645 (by decide) ?_
  refine lv_iconst (v := (0 : Int32)) hx hb dL_refuses_646 (by decide) ?_
  refine lv_iconst (v := (0 : Int32)) hx hb dL_refuses_647 (by decide) ?_
  obtain ⟨z13, o13, hq⟩ := cn_23 l hl0 D cy t xa sa sb tr na ka o12 (-1 : Int32) (0 : Int32) (0 : Int32) (v := (-9999001)) (r1_23 (f_restore (no_slot (by decide))))
  refine hwS (A0 := A) (As := [.ref (xa 0), .int (23 : Int32), .int (-1 : Int32), .int (0 : Int32), .int (0 : Int32)]) (rest := []) (W1 := (wSp cy xa sa sb tr na ka z12)) (W2 := (wSp cy xa sa sb tr na ka z13)) hq hCF gw_L_call.more rfl hq_L_call ⟨Nat.le_of_ble_eq_true rfl, Nat.le_of_ble_eq_true rfl⟩ hG hF hP hD hS hA h_Sp rfl hl.1 rfl (Nat.le_of_ble_eq_true rfl) dL_refuses_648 ⟨by show _ ≤ 100; omega, by show _ ≤ 600; omega⟩ (fun H locs hP hD hS => ?_)
  refine lv_ldc (v := (-9999001 : Int32)) hx hb hown (hts _ (List.mem_cons_of_mem _ gc_15)) dL_refuses_651 ?_
  refine lv_icmp_ne (tgt := 680) hx hb dL_refuses_653 (by decide) (fun q => absurd rfl q) (fun _ => ?_)
  refine lv_aload_n hx hb dL_refuses_656 rfl (lv_at hl 2 rfl) ?_
  refine lv_iconst (v := (0 : Int32)) hx hb dL_refuses_657 (by decide) ?_
  refine lv_sipush (v := (256 : Int32)) hx hb dL_refuses_658 (by decide) ?_
  refine lv_iload_n hx hb dL_refuses_661 rfl (lv_at hl 3 rfl) ?_
  refine lv_bipush (v := (9 : Int32)) hx hb dL_refuses_662 (by decide) ?_
  refine lv_irem hx hb dL_refuses_664 (by decide) ?_
  refine lv_iadd hx hb dL_refuses_665 ?_
  refine lv_iconst (v := (0 : Int32)) hx hb dL_refuses_666 (by decide) ?_
  refine lv_iconst (v := (0 : Int32)) hx hb dL_refuses_667 (by decide) ?_
  obtain ⟨z14, o14, hq⟩ := cn_0 l hl0 D cy t xa sa sb tr na ka o13 ((256 : Int32) + (rmJ x (9 : Int32))) (0 : Int32) (0 : Int32) (v := (-9999002)) (r2_0 (f_append (by have := add9 (k := (256 : Int32)) hx0 (K := 256) (by decide) (by decide); omega)))
  refine hwS (A0 := A) (As := [.ref (xa 0), .int (0 : Int32), .int ((256 : Int32) + (rmJ x (9 : Int32))), .int (0 : Int32), .int (0 : Int32)]) (rest := []) (W1 := (wSp cy xa sa sb tr na ka z13)) (W2 := (wSp cy xa sa sb tr na ka z14)) hq hCF gw_L_call.more rfl hq_L_call ⟨Nat.le_of_ble_eq_true rfl, Nat.le_of_ble_eq_true rfl⟩ hG hF hP hD hS hA h_Sp rfl hl.1 rfl (Nat.le_of_ble_eq_true rfl) dL_refuses_668 ⟨by show _ ≤ 100; omega, by show _ ≤ 600; omega⟩ (fun H locs hP hD hS => ?_)
  refine lv_ldc (v := (-9999002 : Int32)) hx hb hown (hts _ (List.mem_cons_of_mem _ gc_28)) dL_refuses_671 ?_
  refine lv_icmp_ne (tgt := 680) hx hb dL_refuses_673 (by decide) (fun q => absurd rfl q) (fun _ => ?_)
  refine lv_iconst (v := (1 : Int32)) hx hb dL_refuses_676 (by decide) ?_
  refine lv_goto (tgt := 681) hx hb dL_refuses_677 (by decide) ?_
  refine lv_istore_n (lv' := [(3, .int (1 : Int32)), (2, .int (uN (sU (pN z)))), (0, .ref (xa 0)), (1, .int x)]) hx hb dL_refuses_681 rfl hl (by decide) rfl (fun ls hl => ?_)
  refine W.widen (k := cells + 13) (n := slots + 78) (by omega) (by omega) ?_
  exact kk _ _ _ z14 hl o14 hP hD hS
