/-! p35: holds: what is compared -/
theorem due_no {un : UnT} {u : Int32} (h : ¬ m_X7_has un u = 0) (e : u = -1) : False := by
  have := hs_has h
  rw [e, im1] at this
  omega
set_option maxRecDepth 20000 in
theorem w_h3 {p : Program} {l : Launch} {e : Env} {s : State} {m : MethodId} {below : List Frame} {meth : Method} {c : Code} {D : va_G} {cy : Nat → ClassId} {t : FxA} {A : Nat → Prop} {Q : State → Prop} {xa sa sb tr na : Nat → Nat} {ka : Nat → Nat → Nat} {x : Int32} (C0 : LR p l s m meth c ([.ref (xa 0), .int x] : List Value).toArray cL_holds 28 wc_holds (some .boolean) D cy t A) {z : SpT} (oz : OKz z) {T : Int} (g : SG T (pN z)) {c3 c4 c5 c6 c7 c8 c9 c10 : Int32} (e3 : c3 = 0) (e4 : c4 = (uN (sU (pN z)))) (e5 : c5 = (uN (sU (pN z)))) (e6 : c6 = m_X7_onLoan (sU (pN z))) (e7 : c7 = 0) (e8 : c8 = c9) (e9 : c8 = m_X1_all (sD (pN z))) (e10 : c10 = m_X0_all (sC (pN z))) {cells slots : Nat} (hc : cells + 4 ≤ 3000) (hs : slots + 24 ≤ 18000) {H : Heap} {locs : List Loc} {ls : Array Slot} (hl : lv_has ls 28 [(11, .int (1 : Int32)), (10, .int c10), (9, .int c9), (8, .int c8), (7, .int c7), (6, .int c6), (5, .int c5), (4, .int c4), (3, .int c3), (2, .int (uN (sU (pN z)))), (0, .ref (xa 0)), (1, .int x)]) (hP : va_P D vwCl (wSp cy xa sa sb tr na ka z) H) (hD : va_D A (wSp cy xa sa sb tr na ka z)) (hS : va_S A s.heap H locs) (kk : ∀ (ls : Array Slot) (H : Heap) (locs : List Loc), lv_has ls 28 [(11, .int (1 : Int32)), (2, .int (uN (sU (pN z)))), (0, .ref (xa 0)), (1, .int x)] → va_P D vwCl (wSp cy xa sa sb tr na ka z) H → va_D A (wSp cy xa sa sb tr na ka z) → va_S A s.heap H locs → @Wx p l e ({ frames := 10, cells := 3000, slots := 18000, locals := 300 } : Room) s m ([.ref (xa 0), .int x] : List Value).toArray below meth c H locs (cells + 4) (slots + 24) Q (F0 m 381 ls [])) : @Wx p l e ({ frames := 10, cells := 3000, slots := 18000, locals := 300 } : Room) s m ([.ref (xa 0), .int x] : List Value).toArray below meth c H locs cells slots Q (F0 m 264 ls []) := by
  obtain ⟨hx, hb, hr, hlocks, hts, hown, hCF, hG, hF, hA, hl0⟩ := C0
  refine lv_iload hx hb dL_holds_264 (lv_at hl 0 rfl) ?_
  refine lv_if_eq (tgt := 378) hx hb dL_holds_266 (by decide) (fun q => absurd q (by decide)) (fun _ => ?_)
  refine lv_iload_n hx hb dL_holds_269 rfl (lv_at hl 8 rfl) ?_
  refine lv_if_ne (tgt := 378) hx hb dL_holds_270 (by decide) (fun q => absurd e3 q) (fun _ => ?_)
  refine lv_iload hx hb dL_holds_273 (lv_at hl 7 rfl) ?_
  refine lv_iload_n hx hb dL_holds_275 rfl (lv_at hl 9 rfl) ?_
  refine lv_icmp_ne (tgt := 378) hx hb dL_holds_276 (by decide) (fun q => absurd e4 q) (fun _ => ?_)
  refine lv_iload hx hb dL_holds_279 (lv_at hl 6 rfl) ?_
  refine lv_iload_n hx hb dL_holds_281 rfl (lv_at hl 9 rfl) ?_
  refine lv_icmp_ne (tgt := 378) hx hb dL_holds_282 (by decide) (fun q => absurd e5 q) (fun _ => ?_)
  refine lv_iload hx hb dL_holds_285 (lv_at hl 5 rfl) ?_
  refine lv_aload_n hx hb dL_holds_287 rfl (lv_at hl 10 rfl) ?_
  refine lv_iconst (v := (2 : Int32)) hx hb dL_holds_288 (by decide) ?_
  refine lv_iconst (v := (3 : Int32)) hx hb dL_holds_289 (by decide) ?_
  refine lv_iconst (v := (0 : Int32)) hx hb dL_holds_290 (by decide) ?_
  refine lv_iconst (v := (0 : Int32)) hx hb dL_holds_291 (by decide) ?_
  refine hwS (A0 := A) (As := [.ref (xa 0), .int (2 : Int32), .int (3 : Int32), .int (0 : Int32), .int (0 : Int32)]) (rest := [.int c6]) (W1 := (wSp cy xa sa sb tr na ka z)) (W2 := (wSp cy xa sa sb tr na ka z)) (cq_2 l hl0 D cy t xa sa sb tr na ka oz (3 : Int32) (0 : Int32) (0 : Int32)) hCF gw_L_call.more rfl hq_L_call ⟨Nat.le_of_ble_eq_true rfl, Nat.le_of_ble_eq_true rfl⟩ hG hF hP hD hS hA rfl rfl hl.1 rfl (Nat.le_of_ble_eq_true rfl) dL_holds_292 ⟨by show _ ≤ 3000; omega, by show _ ≤ 18000; omega⟩ (fun H locs hP hD hS => ?_)
  refine lv_icmp_ne (tgt := 378) hx hb dL_holds_295 (by decide) (fun q => absurd (e6.trans kv_a3.symm) q) (fun _ => ?_)
  refine lv_iload hx hb dL_holds_298 (lv_at hl 4 rfl) ?_
  refine lv_if_ne (tgt := 378) hx hb dL_holds_300 (by decide) (fun q => absurd e7 q) (fun _ => ?_)
  refine lv_iload hx hb dL_holds_303 (lv_at hl 3 rfl) ?_
  refine lv_iload hx hb dL_holds_305 (lv_at hl 2 rfl) ?_
  refine lv_icmp_ne (tgt := 378) hx hb dL_holds_307 (by decide) (fun q => absurd e8 q) (fun _ => ?_)
  refine lv_iload hx hb dL_holds_310 (lv_at hl 3 rfl) ?_
  refine lv_aload_n hx hb dL_holds_312 rfl (lv_at hl 10 rfl) ?_
  refine lv_iconst (v := (2 : Int32)) hx hb dL_holds_313 (by decide) ?_
  refine lv_bipush (v := (6 : Int32)) hx hb dL_holds_314 (by decide) ?_
  refine lv_iconst (v := (0 : Int32)) hx hb dL_holds_316 (by decide) ?_
  refine lv_iconst (v := (0 : Int32)) hx hb dL_holds_317 (by decide) ?_
  refine hwS (A0 := A) (As := [.ref (xa 0), .int (2 : Int32), .int (6 : Int32), .int (0 : Int32), .int (0 : Int32)]) (rest := [.int c8]) (W1 := (wSp cy xa sa sb tr na ka z)) (W2 := (wSp cy xa sa sb tr na ka z)) (cq_2 l hl0 D cy t xa sa sb tr na ka oz (6 : Int32) (0 : Int32) (0 : Int32)) hCF gw_L_call.more rfl hq_L_call ⟨Nat.le_of_ble_eq_true rfl, Nat.le_of_ble_eq_true rfl⟩ hG hF hP hD hS hA rfl rfl hl.1 rfl (Nat.le_of_ble_eq_true rfl) dL_holds_318 ⟨by show _ ≤ 3000; omega, by show _ ≤ 18000; omega⟩ (fun H locs hP hD hS => ?_)
  refine lv_icmp_ne (tgt := 378) hx hb dL_holds_321 (by decide) (fun q => absurd (e9.trans kv_a6.symm) q) (fun _ => ?_)
  refine lv_iload hx hb dL_holds_324 (lv_at hl 1 rfl) ?_
  refine lv_aload_n hx hb dL_holds_326 rfl (lv_at hl 10 rfl) ?_
  refine lv_iconst (v := (2 : Int32)) hx hb dL_holds_327 (by decide) ?_
  refine lv_iconst (v := (5 : Int32)) hx hb dL_holds_328 (by decide) ?_
  refine lv_iconst (v := (0 : Int32)) hx hb dL_holds_329 (by decide) ?_
  refine lv_iconst (v := (0 : Int32)) hx hb dL_holds_330 (by decide) ?_
  refine hwS (A0 := A) (As := [.ref (xa 0), .int (2 : Int32), .int (5 : Int32), .int (0 : Int32), .int (0 : Int32)]) (rest := [.int c10]) (W1 := (wSp cy xa sa sb tr na ka z)) (W2 := (wSp cy xa sa sb tr na ka z)) (cq_2 l hl0 D cy t xa sa sb tr na ka oz (5 : Int32) (0 : Int32) (0 : Int32)) hCF gw_L_call.more rfl hq_L_call ⟨Nat.le_of_ble_eq_true rfl, Nat.le_of_ble_eq_true rfl⟩ hG hF hP hD hS hA rfl rfl hl.1 rfl (Nat.le_of_ble_eq_true rfl) dL_holds_331 ⟨by show _ ≤ 3000; omega, by show _ ≤ 18000; omega⟩ (fun H locs hP hD hS => ?_)
  refine lv_icmp_ne (tgt := 378) hx hb dL_holds_334 (by decide) (fun q => absurd (e10.trans kv_a5.symm) q) (fun _ => ?_)
  refine lv_aload_n hx hb dL_holds_337 rfl (lv_at hl 10 rfl) ?_
  refine lv_iconst (v := (4 : Int32)) hx hb dL_holds_338 (by decide) ?_
  refine lv_iconst (v := (4 : Int32)) hx hb dL_holds_339 (by decide) ?_
  refine lv_iconst (v := (4 : Int32)) hx hb dL_holds_340 (by decide) ?_
  refine lv_iconst (v := (0 : Int32)) hx hb dL_holds_341 (by decide) ?_
  refine hwS (A0 := A) (As := [.ref (xa 0), .int (4 : Int32), .int (4 : Int32), .int (4 : Int32), .int (0 : Int32)]) (rest := []) (W1 := (wSp cy xa sa sb tr na ka z)) (W2 := (wSp cy xa sa sb tr na ka z)) (cq_4 l hl0 D cy t xa sa sb tr na ka oz (4 : Int32) (4 : Int32) (0 : Int32)) hCF gw_L_call.more rfl hq_L_call ⟨Nat.le_of_ble_eq_true rfl, Nat.le_of_ble_eq_true rfl⟩ hG hF hP hD hS hA rfl rfl hl.1 rfl (Nat.le_of_ble_eq_true rfl) dL_holds_342 ⟨by show _ ≤ 3000; omega, by show _ ≤ 18000; omega⟩ (fun H locs hP hD hS => ?_)
  refine lv_if_ne (tgt := 378) hx hb dL_holds_345 (by decide) (fun q => absurd ((kv_h4 (holdI iv_4)).trans g.2.1) q) (fun _ => ?_)
  refine lv_aload_n hx hb dL_holds_348 rfl (lv_at hl 10 rfl) ?_
  refine fwV (ci := 6) (A0 := A) (As := []) (rest := []) (W1 := (wSp cy xa sa sb tr na ka z)) (W2 := (wSp cy xa sa sb tr na ka z)) (c_X8_firstDue l D cy t xa sa sb tr na ka z oz.st) hCF gw_X8_firstDue.more rfl hq_X8_firstDue ⟨rfl, rfl, Nat.le_of_ble_eq_true rfl, Nat.le_of_ble_eq_true rfl⟩ hG hF hP hD hS hA rfl rfl rfl (List.mem_of_getElem? g_Sp_0) rfl hl.1 rfl (Nat.le_of_ble_eq_true rfl) dL_holds_349 ⟨by show _ ≤ 3000; omega, by show _ ≤ 18000; omega⟩ (fun H locs hP hD hS => ?_)
  refine lv_iconst (v := (-1 : Int32)) hx hb dL_holds_352 (by decide) ?_
  rcases due_fact oz.st.1 with ⟨d1, d2⟩ | ⟨d1, d2⟩
  · refine lv_icmp_ne (tgt := 360) hx hb dL_holds_353 (by decide) (fun q => absurd d1 q) (fun _ => ?_)
    refine lv_iconst (v := (1 : Int32)) hx hb dL_holds_356 (by decide) ?_
    refine lv_goto (tgt := 361) hx hb dL_holds_357 (by decide) ?_
    refine lv_iload hx hb dL_holds_361 (lv_at hl 5 rfl) ?_
    refine lv_if_ne (tgt := 370) hx hb dL_holds_363 (by decide) (fun q => absurd (e6.trans d2) q) (fun _ => ?_)
    refine lv_iconst (v := (1 : Int32)) hx hb dL_holds_366 (by decide) ?_
    refine lv_goto (tgt := 371) hx hb dL_holds_367 (by decide) ?_
    refine lv_icmp_ne (tgt := 378) hx hb dL_holds_371 (by decide) (fun q => absurd rfl q) (fun _ => ?_)
    refine lv_iconst (v := (1 : Int32)) hx hb dL_holds_374 (by decide) ?_
    refine lv_goto (tgt := 379) hx hb dL_holds_375 (by decide) ?_
    refine lv_istore (lv' := [(11, .int (1 : Int32)), (10, .int c10), (9, .int c9), (8, .int c8), (7, .int c7), (6, .int c6), (5, .int c5), (4, .int c4), (3, .int c3), (2, .int (uN (sU (pN z)))), (0, .ref (xa 0)), (1, .int x)]) hx hb dL_holds_379 hl (by decide) rfl (fun ls hl => ?_)
    have hl : lv_has ls 28 [(11, .int (1 : Int32)), (2, .int (uN (sU (pN z)))), (0, .ref (xa 0)), (1, .int x)] := lv_sub hl [0, 9, 10, 11] rfl
    refine W.widen (k := cells + 4) (n := slots + 24) (by omega) (by omega) ?_
    exact kk _ _ _ hl hP hD hS
  · refine lv_icmp_ne (tgt := 360) hx hb dL_holds_353 (by decide) (fun _ => ?_) (fun q => absurd q (fun e9 => due_no d1.1 e9))
    refine lv_iconst (v := (0 : Int32)) hx hb dL_holds_360 (by decide) ?_
    refine lv_iload hx hb dL_holds_361 (lv_at hl 5 rfl) ?_
    refine lv_if_ne (tgt := 370) hx hb dL_holds_363 (by decide) (fun _ => ?_) (fun q => absurd q (fun e9 => by rw [← e6, e9, i32_0] at d2; omega))
    refine lv_iconst (v := (0 : Int32)) hx hb dL_holds_370 (by decide) ?_
    refine lv_icmp_ne (tgt := 378) hx hb dL_holds_371 (by decide) (fun q => absurd rfl q) (fun _ => ?_)
    refine lv_iconst (v := (1 : Int32)) hx hb dL_holds_374 (by decide) ?_
    refine lv_goto (tgt := 379) hx hb dL_holds_375 (by decide) ?_
    refine lv_istore (lv' := [(11, .int (1 : Int32)), (10, .int c10), (9, .int c9), (8, .int c8), (7, .int c7), (6, .int c6), (5, .int c5), (4, .int c4), (3, .int c3), (2, .int (uN (sU (pN z)))), (0, .ref (xa 0)), (1, .int x)]) hx hb dL_holds_379 hl (by decide) rfl (fun ls hl => ?_)
    have hl : lv_has ls 28 [(11, .int (1 : Int32)), (2, .int (uN (sU (pN z)))), (0, .ref (xa 0)), (1, .int x)] := lv_sub hl [0, 9, 10, 11] rfl
    refine W.widen (k := cells + 4) (n := slots + 24) (by omega) (by omega) ?_
    exact kk _ _ _ hl hP hD hS
set_option maxRecDepth 20000 in
theorem w_h4 {p : Program} {l : Launch} {e : Env} {s : State} {m : MethodId} {below : List Frame} {meth : Method} {c : Code} {D : va_G} {cy : Nat → ClassId} {t : FxA} {A : Nat → Prop} {Q : State → Prop} {xa sa sb tr na : Nat → Nat} {ka : Nat → Nat → Nat} {x : Int32} (C0 : LR p l s m meth c ([.ref (xa 0), .int x] : List Value).toArray cL_holds 28 wc_holds (some .boolean) D cy t A) {z : SpT} (oz : OKz z) (hx0 : 0 ≤ x.toInt) (hk2 : iv 0 2 (rmJ (x / (8 : Int32)) (3 : Int32))) {cells slots : Nat} (hc : cells + 2 ≤ 3000) (hs : slots + 12 ≤ 18000) {H : Heap} {locs : List Loc} {ls : Array Slot} (hl : lv_has ls 28 [(11, .int (1 : Int32)), (2, .int (uN (sU (pN z)))), (0, .ref (xa 0)), (1, .int x)]) (hP : va_P D vwCl (wSp cy xa sa sb tr na ka z) H) (hD : va_D A (wSp cy xa sa sb tr na ka z)) (hS : va_S A s.heap H locs) (kk : ∀ (ls : Array Slot) (H : Heap) (locs : List Loc), lv_has ls 28 [(17, .int (0 : Int32)), (16, .int (0 : Int32)), (15, .int (m_X7_fewestTakings (sU (pN z)) (rmJ x (5 : Int32)) (rmJ (x / (8 : Int32)) (3 : Int32)))), (14, .int (m_X7_mostCompleted (sU (pN z)) (rmJ x (5 : Int32)) (rmJ (x / (8 : Int32)) (3 : Int32)))), (13, .int (rmJ (x / (8 : Int32)) (3 : Int32))), (12, .int (rmJ x (5 : Int32))), (11, .int (1 : Int32)), (2, .int (uN (sU (pN z)))), (0, .ref (xa 0)), (1, .int x)] → va_P D vwCl (wSp cy xa sa sb tr na ka z) H → va_D A (wSp cy xa sa sb tr na ka z) → va_S A s.heap H locs → @Wx p l e ({ frames := 10, cells := 3000, slots := 18000, locals := 300 } : Room) s m ([.ref (xa 0), .int x] : List Value).toArray below meth c H locs (cells + 2) (slots + 12) Q (F0 m 426 ls [])) : @Wx p l e ({ frames := 10, cells := 3000, slots := 18000, locals := 300 } : Room) s m ([.ref (xa 0), .int x] : List Value).toArray below meth c H locs cells slots Q (F0 m 381 ls []) := by
  obtain ⟨hx, hb, hr, hlocks, hts, hown, hCF, hG, hF, hA, hl0⟩ := C0
  refine lv_iload_n hx hb dL_holds_381 rfl (lv_at hl 3 rfl) ?_
  refine lv_iconst (v := (5 : Int32)) hx hb dL_holds_382 (by decide) ?_
  refine lv_irem hx hb dL_holds_383 (by decide) ?_
  refine lv_istore (lv' := [(12, .int (rmJ x (5 : Int32))), (11, .int (1 : Int32)), (2, .int (uN (sU (pN z)))), (0, .ref (xa 0)), (1, .int x)]) hx hb dL_holds_384 hl (by decide) rfl (fun ls hl => ?_)
  refine lv_iload_n hx hb dL_holds_386 rfl (lv_at hl 4 rfl) ?_
  refine lv_bipush (v := (8 : Int32)) hx hb dL_holds_387 (by decide) ?_
  refine lv_idiv hx hb dL_holds_389 (by decide) ?_
  refine lv_iconst (v := (3 : Int32)) hx hb dL_holds_390 (by decide) ?_
  refine lv_irem hx hb dL_holds_391 (by decide) ?_
  refine lv_istore (lv' := [(13, .int (rmJ (x / (8 : Int32)) (3 : Int32))), (12, .int (rmJ x (5 : Int32))), (11, .int (1 : Int32)), (2, .int (uN (sU (pN z)))), (0, .ref (xa 0)), (1, .int x)]) hx hb dL_holds_392 hl (by decide) rfl (fun ls hl => ?_)
  refine lv_aload_n hx hb dL_holds_394 rfl (lv_at hl 4 rfl) ?_
  refine lv_bipush (v := (18 : Int32)) hx hb dL_holds_395 (by decide) ?_
  refine lv_iload hx hb dL_holds_397 (lv_at hl 1 rfl) ?_
  refine lv_iload hx hb dL_holds_399 (lv_at hl 0 rfl) ?_
  refine lv_iconst (v := (0 : Int32)) hx hb dL_holds_401 (by decide) ?_
  have hq := cq_18 l hl0 D cy t xa sa sb tr na ka oz (rmJ x (5 : Int32)) (rmJ (x / (8 : Int32)) (3 : Int32)) 0
  rw [kv_18 (holdI (rmJ_5 hx0)) (is_kind hk2)] at hq
  refine hwS (A0 := A) (As := [.ref (xa 0), .int (18 : Int32), .int (rmJ x (5 : Int32)), .int (rmJ (x / (8 : Int32)) (3 : Int32)), .int (0 : Int32)]) (rest := []) (W1 := (wSp cy xa sa sb tr na ka z)) (W2 := (wSp cy xa sa sb tr na ka z)) hq hCF gw_L_call.more rfl hq_L_call ⟨Nat.le_of_ble_eq_true rfl, Nat.le_of_ble_eq_true rfl⟩ hG hF hP hD hS hA rfl rfl hl.1 rfl (Nat.le_of_ble_eq_true rfl) dL_holds_402 ⟨by show _ ≤ 3000; omega, by show _ ≤ 18000; omega⟩ (fun H locs hP hD hS => ?_)
  refine lv_istore (lv' := [(14, .int (m_X7_mostCompleted (sU (pN z)) (rmJ x (5 : Int32)) (rmJ (x / (8 : Int32)) (3 : Int32)))), (13, .int (rmJ (x / (8 : Int32)) (3 : Int32))), (12, .int (rmJ x (5 : Int32))), (11, .int (1 : Int32)), (2, .int (uN (sU (pN z)))), (0, .ref (xa 0)), (1, .int x)]) hx hb dL_holds_405 hl (by decide) rfl (fun ls hl => ?_)
  refine lv_aload_n hx hb dL_holds_407 rfl (lv_at hl 5 rfl) ?_
  refine lv_bipush (v := (19 : Int32)) hx hb dL_holds_408 (by decide) ?_
  refine lv_iload hx hb dL_holds_410 (lv_at hl 2 rfl) ?_
  refine lv_iload hx hb dL_holds_412 (lv_at hl 1 rfl) ?_
  refine lv_iconst (v := (0 : Int32)) hx hb dL_holds_414 (by decide) ?_
  have hq := cq_19 l hl0 D cy t xa sa sb tr na ka oz (rmJ x (5 : Int32)) (rmJ (x / (8 : Int32)) (3 : Int32)) 0
  rw [kv_19 (holdI (rmJ_5 hx0)) (is_kind hk2)] at hq
  refine hwS (A0 := A) (As := [.ref (xa 0), .int (19 : Int32), .int (rmJ x (5 : Int32)), .int (rmJ (x / (8 : Int32)) (3 : Int32)), .int (0 : Int32)]) (rest := []) (W1 := (wSp cy xa sa sb tr na ka z)) (W2 := (wSp cy xa sa sb tr na ka z)) hq hCF gw_L_call.more rfl hq_L_call ⟨Nat.le_of_ble_eq_true rfl, Nat.le_of_ble_eq_true rfl⟩ hG hF hP hD hS hA rfl rfl hl.1 rfl (Nat.le_of_ble_eq_true rfl) dL_holds_415 ⟨by show _ ≤ 3000; omega, by show _ ≤ 18000; omega⟩ (fun H locs hP hD hS => ?_)
  refine lv_istore (lv' := [(15, .int (m_X7_fewestTakings (sU (pN z)) (rmJ x (5 : Int32)) (rmJ (x / (8 : Int32)) (3 : Int32)))), (14, .int (m_X7_mostCompleted (sU (pN z)) (rmJ x (5 : Int32)) (rmJ (x / (8 : Int32)) (3 : Int32)))), (13, .int (rmJ (x / (8 : Int32)) (3 : Int32))), (12, .int (rmJ x (5 : Int32))), (11, .int (1 : Int32)), (2, .int (uN (sU (pN z)))), (0, .ref (xa 0)), (1, .int x)]) hx hb dL_holds_418 hl (by decide) rfl (fun ls hl => ?_)
  refine lv_iconst (v := (0 : Int32)) hx hb dL_holds_420 (by decide) ?_
  refine lv_istore (lv' := [(16, .int (0 : Int32)), (15, .int (m_X7_fewestTakings (sU (pN z)) (rmJ x (5 : Int32)) (rmJ (x / (8 : Int32)) (3 : Int32)))), (14, .int (m_X7_mostCompleted (sU (pN z)) (rmJ x (5 : Int32)) (rmJ (x / (8 : Int32)) (3 : Int32)))), (13, .int (rmJ (x / (8 : Int32)) (3 : Int32))), (12, .int (rmJ x (5 : Int32))), (11, .int (1 : Int32)), (2, .int (uN (sU (pN z)))), (0, .ref (xa 0)), (1, .int x)]) hx hb dL_holds_421 hl (by decide) rfl (fun ls hl => ?_)
  refine lv_iconst (v := (0 : Int32)) hx hb dL_holds_423 (by decide) ?_
  refine lv_istore (lv' := [(17, .int (0 : Int32)), (16, .int (0 : Int32)), (15, .int (m_X7_fewestTakings (sU (pN z)) (rmJ x (5 : Int32)) (rmJ (x / (8 : Int32)) (3 : Int32)))), (14, .int (m_X7_mostCompleted (sU (pN z)) (rmJ x (5 : Int32)) (rmJ (x / (8 : Int32)) (3 : Int32)))), (13, .int (rmJ (x / (8 : Int32)) (3 : Int32))), (12, .int (rmJ x (5 : Int32))), (11, .int (1 : Int32)), (2, .int (uN (sU (pN z)))), (0, .ref (xa 0)), (1, .int x)]) hx hb dL_holds_424 hl (by decide) rfl (fun ls hl => ?_)
  refine W.widen (k := cells + 2) (n := slots + 12) (by omega) (by omega) ?_
  exact kk _ _ _ hl hP hD hS
set_option maxRecDepth 20000 in
theorem w_us {p : Program} {l : Launch} {e : Env} {s : State} {m : MethodId} {below : List Frame} {meth : Method} {c : Code} {D : va_G} {cy : Nat → ClassId} {t : FxA} {A : Nat → Prop} {Q : State → Prop} {xa sa sb tr na : Nat → Nat} {ka : Nat → Nat → Nat} {x : Int32} (C0 : LR p l s m meth c ([.ref (xa 0), .int x] : List Value).toArray cL_holds 28 wc_holds (some .boolean) D cy t A) {z : SpT} (oz : OKz z) {tk can kd h : Int32} : ∀ (f i : Nat) (us : Int32), i + f = uM (sU (pN z)) → us.toInt = ((ct (pU (sU (pN z)) h kd) i : Nat) : Int) → ∀ {cells slots : Nat} (hc : cells + 3 * (f + 1) ≤ 3000) (hs : slots + 18 * (f + 1) ≤ 18000) {H : Heap} {locs : List Loc} {ls : Array Slot} (hl : lv_has ls 28 [(17, .int (nI i)), (16, .int us), (15, .int tk), (14, .int can), (13, .int kd), (12, .int h), (11, .int (1 : Int32)), (2, .int (uN (sU (pN z)))), (0, .ref (xa 0)), (1, .int x)]) (hP : va_P D vwCl (wSp cy xa sa sb tr na ka z) H) (hD : va_D A (wSp cy xa sa sb tr na ka z)) (hS : va_S A s.heap H locs) (kk : ∀ (ls : Array Slot) (H : Heap) (locs : List Loc) (us2 : Int32), us2.toInt = ((ct (pU (sU (pN z)) h kd) (uM (sU (pN z))) : Nat) : Int) → lv_has ls 28 [(16, .int us2), (15, .int tk), (14, .int can), (13, .int kd), (12, .int h), (11, .int (1 : Int32)), (2, .int (uN (sU (pN z)))), (0, .ref (xa 0)), (1, .int x)] → va_P D vwCl (wSp cy xa sa sb tr na ka z) H → va_D A (wSp cy xa sa sb tr na ka z) → va_S A s.heap H locs → @Wx p l e ({ frames := 10, cells := 3000, slots := 18000, locals := 300 } : Room) s m ([.ref (xa 0), .int x] : List Value).toArray below meth c H locs (cells + 3 * (f + 1)) (slots + 18 * (f + 1)) Q (F0 m 490 ls [])), @Wx p l e ({ frames := 10, cells := 3000, slots := 18000, locals := 300 } : Room) s m ([.ref (xa 0), .int x] : List Value).toArray below meth c H locs cells slots Q (F0 m 426 ls []) := by
  have C1 := C0
  obtain ⟨hx, hb, hr, hlocks, hts, hown, hCF, hG, hF, hA, hl0⟩ := C0
  obtain ⟨m16, mN9⟩ := um16 oz.st.1
  intro f
  induction f with
  | zero =>
    intro i us hif hn cells slots hc hs H locs ls hl hP hD hS kk
    refine lv_iload hx hb dL_holds_426 (lv_at hl 0 rfl) ?_
    refine lv_iload_n hx hb dL_holds_428 rfl (lv_at hl 7 rfl) ?_
    refine lv_icmp_ge (tgt := 490) hx hb dL_holds_429 (by decide) (fun _ => ?_) (fun q => absurd (by rw [i32_le, (nI_n (i := i) (by omega)).1]; omega) q)
    have hl : lv_has ls 28 [(16, .int us), (15, .int tk), (14, .int can), (13, .int kd), (12, .int h), (11, .int (1 : Int32)), (2, .int (uN (sU (pN z)))), (0, .ref (xa 0)), (1, .int x)] := lv_sub hl [1, 2, 3, 4, 5, 6, 7, 8, 9] rfl
    refine W.widen (k := cells + 3 * (0 + 1)) (n := slots + 18 * (0 + 1)) (by omega) (by omega) ?_
    exact kk _ _ _ us (by rw [hn, show i = uM (sU (pN z)) by omega]) hl hP hD hS
  | succ f ih =>
    intro i us hif hn cells slots hc hs H locs ls hl hP hD hS kk
    refine lv_iload hx hb dL_holds_426 (lv_at hl 0 rfl) ?_
    refine lv_iload_n hx hb dL_holds_428 rfl (lv_at hl 7 rfl) ?_
    have ci : ¬ i = uM (sU (pN z)) := by omega
    have hi : i < uM (sU (pN z)) := by omega
    refine lv_icmp_ge (tgt := 490) hx hb dL_holds_429 (by decide) (fun q => absurd q (by rw [i32_le, (nI_n (i := i) (by omega)).1]; omega)) (fun _ => ?_)
    refine lv_iload hx hb dL_holds_432 (lv_at hl 1 rfl) ?_
    refine lv_aload_n hx hb dL_holds_434 rfl (lv_at hl 8 rfl) ?_
    refine lv_iconst (v := (3 : Int32)) hx hb dL_holds_435 (by decide) ?_
    refine lv_iload hx hb dL_holds_436 (lv_at hl 0 rfl) ?_
    refine lv_iconst (v := (0 : Int32)) hx hb dL_holds_438 (by decide) ?_
    refine lv_iconst (v := (0 : Int32)) hx hb dL_holds_439 (by decide) ?_
    refine hwS (A0 := A) (As := [.ref (xa 0), .int (3 : Int32), .int (nI i), .int (0 : Int32), .int (0 : Int32)]) (rest := [.int us]) (W1 := (wSp cy xa sa sb tr na ka z)) (W2 := (wSp cy xa sa sb tr na ka z)) (cu_0 l hl0 D cy t xa sa sb tr na ka oz (i := i) hi) hCF gw_L_call.more rfl hq_L_call ⟨Nat.le_of_ble_eq_true rfl, Nat.le_of_ble_eq_true rfl⟩ hG hF hP hD hS hA rfl rfl hl.1 rfl (Nat.le_of_ble_eq_true rfl) dL_holds_440 ⟨by show _ ≤ 3000; omega, by show _ ≤ 18000; omega⟩ (fun H locs hP hD hS => ?_)
    refine lv_iload hx hb dL_holds_443 (lv_at hl 4 rfl) ?_
    refine lv_icmp_ne (tgt := 480) hx hb dL_holds_445 (by decide) (fun k1 => ?_) (fun k1 => ?_)
    · refine lv_iconst (v := (0 : Int32)) hx hb dL_holds_480 (by decide) ?_
      refine lv_iadd hx hb dL_holds_481 ?_
      refine lv_istore (lv' := [(16, .int (us + (0 : Int32))), (17, .int (nI i)), (15, .int tk), (14, .int can), (13, .int kd), (12, .int h), (11, .int (1 : Int32)), (2, .int (uN (sU (pN z)))), (0, .ref (xa 0)), (1, .int x)]) hx hb dL_holds_482 hl (by decide) rfl (fun ls hl => ?_)
      refine lv_iinc (v := ((nI i) + (1 : Int32))) (lv' := [(17, .int ((nI i) + (1 : Int32))), (16, .int (us + (0 : Int32))), (15, .int tk), (14, .int can), (13, .int kd), (12, .int h), (11, .int (1 : Int32)), (2, .int (uN (sU (pN z)))), (0, .ref (xa 0)), (1, .int x)]) hx hb dL_holds_484 hl (k := 1) rfl rfl (by decide) rfl (fun ls hl => ?_)
      refine lv_goto (tgt := 426) hx hb dL_holds_487 (by decide) ?_
      have hl : lv_has ls 28 [(17, .int (nI i + (1 : Int32))), (16, .int (us + (0 : Int32))), (15, .int tk), (14, .int can), (13, .int kd), (12, .int h), (11, .int (1 : Int32)), (2, .int (uN (sU (pN z)))), (0, .ref (xa 0)), (1, .int x)] := lv_sub hl [0, 1, 2, 3, 4, 5, 6, 7, 8, 9] rfl
      refine W.widen (k := cells + 3) (n := slots + 18) (by omega) (by omega) ?_
      have cl := ct_le (pU (sU (pN z)) h kd) i
      have e1 : (us + 0).toInt = ((ct (pU (sU (pN z)) h kd) (i + 1) : Nat) : Int) := by rw [ct_s, if_neg (by unfold pU; rw [decide_eq_true_eq]; exact fun q => k1 q.1.1), i32_z]; omega
      rw [nI_1] at hl
      refine ih (i + 1) (us + (0 : Int32)) (by omega) e1 (by omega) (by omega) hl hP hD hS (fun ls H locs us2 hn2 hl hP hD hS => ?_)
      refine W.widen (k := cells + 3 * (f + 1 + 1)) (n := slots + 18 * (f + 1 + 1)) (by omega) (by omega) ?_
      exact kk _ _ _ us2 hn2 hl hP hD hS
    · refine lv_aload_n hx hb dL_holds_448 rfl (lv_at hl 8 rfl) ?_
      refine lv_iconst (v := (3 : Int32)) hx hb dL_holds_449 (by decide) ?_
      refine lv_iload hx hb dL_holds_450 (lv_at hl 0 rfl) ?_
      refine lv_iconst (v := (2 : Int32)) hx hb dL_holds_452 (by decide) ?_
      refine lv_iconst (v := (0 : Int32)) hx hb dL_holds_453 (by decide) ?_
      refine hwS (A0 := A) (As := [.ref (xa 0), .int (3 : Int32), .int (nI i), .int (2 : Int32), .int (0 : Int32)]) (rest := [.int us]) (W1 := (wSp cy xa sa sb tr na ka z)) (W2 := (wSp cy xa sa sb tr na ka z)) (cu_2 l hl0 D cy t xa sa sb tr na ka oz (i := i) hi) hCF gw_L_call.more rfl hq_L_call ⟨Nat.le_of_ble_eq_true rfl, Nat.le_of_ble_eq_true rfl⟩ hG hF hP hD hS hA rfl rfl hl.1 rfl (Nat.le_of_ble_eq_true rfl) dL_holds_454 ⟨by show _ ≤ 3000; omega, by show _ ≤ 18000; omega⟩ (fun H locs hP hD hS => ?_)
      refine lv_iload hx hb dL_holds_457 (lv_at hl 5 rfl) ?_
      refine lv_icmp_ne (tgt := 480) hx hb dL_holds_459 (by decide) (fun k2 => ?_) (fun k2 => ?_)
      · refine lv_iconst (v := (0 : Int32)) hx hb dL_holds_480 (by decide) ?_
        refine lv_iadd hx hb dL_holds_481 ?_
        refine lv_istore (lv' := [(16, .int (us + (0 : Int32))), (17, .int (nI i)), (15, .int tk), (14, .int can), (13, .int kd), (12, .int h), (11, .int (1 : Int32)), (2, .int (uN (sU (pN z)))), (0, .ref (xa 0)), (1, .int x)]) hx hb dL_holds_482 hl (by decide) rfl (fun ls hl => ?_)
        refine lv_iinc (v := ((nI i) + (1 : Int32))) (lv' := [(17, .int ((nI i) + (1 : Int32))), (16, .int (us + (0 : Int32))), (15, .int tk), (14, .int can), (13, .int kd), (12, .int h), (11, .int (1 : Int32)), (2, .int (uN (sU (pN z)))), (0, .ref (xa 0)), (1, .int x)]) hx hb dL_holds_484 hl (k := 1) rfl rfl (by decide) rfl (fun ls hl => ?_)
        refine lv_goto (tgt := 426) hx hb dL_holds_487 (by decide) ?_
        have hl : lv_has ls 28 [(17, .int (nI i + (1 : Int32))), (16, .int (us + (0 : Int32))), (15, .int tk), (14, .int can), (13, .int kd), (12, .int h), (11, .int (1 : Int32)), (2, .int (uN (sU (pN z)))), (0, .ref (xa 0)), (1, .int x)] := lv_sub hl [0, 1, 2, 3, 4, 5, 6, 7, 8, 9] rfl
        refine W.widen (k := cells + 3) (n := slots + 18) (by omega) (by omega) ?_
        have cl := ct_le (pU (sU (pN z)) h kd) i
        have e1 : (us + 0).toInt = ((ct (pU (sU (pN z)) h kd) (i + 1) : Nat) : Int) := by rw [ct_s, if_neg (by unfold pU; rw [decide_eq_true_eq]; exact fun q => k2 q.1.2), i32_z]; omega
        rw [nI_1] at hl
        refine ih (i + 1) (us + (0 : Int32)) (by omega) e1 (by omega) (by omega) hl hP hD hS (fun ls H locs us2 hn2 hl hP hD hS => ?_)
        refine W.widen (k := cells + 3 * (f + 1 + 1)) (n := slots + 18 * (f + 1 + 1)) (by omega) (by omega) ?_
        exact kk _ _ _ us2 hn2 hl hP hD hS
      · refine lv_aload_n hx hb dL_holds_462 rfl (lv_at hl 8 rfl) ?_
        refine lv_iconst (v := (3 : Int32)) hx hb dL_holds_463 (by decide) ?_
        refine lv_iload hx hb dL_holds_464 (lv_at hl 0 rfl) ?_
        refine lv_iconst (v := (3 : Int32)) hx hb dL_holds_466 (by decide) ?_
        refine lv_iconst (v := (0 : Int32)) hx hb dL_holds_467 (by decide) ?_
        refine hwS (A0 := A) (As := [.ref (xa 0), .int (3 : Int32), .int (nI i), .int (3 : Int32), .int (0 : Int32)]) (rest := [.int us]) (W1 := (wSp cy xa sa sb tr na ka z)) (W2 := (wSp cy xa sa sb tr na ka z)) (cu_3 l hl0 D cy t xa sa sb tr na ka oz (i := i) hi) hCF gw_L_call.more rfl hq_L_call ⟨Nat.le_of_ble_eq_true rfl, Nat.le_of_ble_eq_true rfl⟩ hG hF hP hD hS hA rfl rfl hl.1 rfl (Nat.le_of_ble_eq_true rfl) dL_holds_468 ⟨by show _ ≤ 3000; omega, by show _ ≤ 18000; omega⟩ (fun H locs hP hD hS => ?_)
        refine lv_bipush (v := (7 : Int32)) hx hb dL_holds_471 (by decide) ?_
        refine lv_icmp_ne (tgt := 480) hx hb dL_holds_473 (by decide) (fun k3 => ?_) (fun k3 => ?_)
        · refine lv_iconst (v := (0 : Int32)) hx hb dL_holds_480 (by decide) ?_
          refine lv_iadd hx hb dL_holds_481 ?_
          refine lv_istore (lv' := [(16, .int (us + (0 : Int32))), (17, .int (nI i)), (15, .int tk), (14, .int can), (13, .int kd), (12, .int h), (11, .int (1 : Int32)), (2, .int (uN (sU (pN z)))), (0, .ref (xa 0)), (1, .int x)]) hx hb dL_holds_482 hl (by decide) rfl (fun ls hl => ?_)
          refine lv_iinc (v := ((nI i) + (1 : Int32))) (lv' := [(17, .int ((nI i) + (1 : Int32))), (16, .int (us + (0 : Int32))), (15, .int tk), (14, .int can), (13, .int kd), (12, .int h), (11, .int (1 : Int32)), (2, .int (uN (sU (pN z)))), (0, .ref (xa 0)), (1, .int x)]) hx hb dL_holds_484 hl (k := 1) rfl rfl (by decide) rfl (fun ls hl => ?_)
          refine lv_goto (tgt := 426) hx hb dL_holds_487 (by decide) ?_
          have hl : lv_has ls 28 [(17, .int (nI i + (1 : Int32))), (16, .int (us + (0 : Int32))), (15, .int tk), (14, .int can), (13, .int kd), (12, .int h), (11, .int (1 : Int32)), (2, .int (uN (sU (pN z)))), (0, .ref (xa 0)), (1, .int x)] := lv_sub hl [0, 1, 2, 3, 4, 5, 6, 7, 8, 9] rfl
          refine W.widen (k := cells + 3) (n := slots + 18) (by omega) (by omega) ?_
          have cl := ct_le (pU (sU (pN z)) h kd) i
          have e1 : (us + 0).toInt = ((ct (pU (sU (pN z)) h kd) (i + 1) : Nat) : Int) := by rw [ct_s, if_neg (by unfold pU; rw [decide_eq_true_eq]; exact fun q => k3 q.2), i32_z]; omega
          rw [nI_1] at hl
          refine ih (i + 1) (us + (0 : Int32)) (by omega) e1 (by omega) (by omega) hl hP hD hS (fun ls H locs us2 hn2 hl hP hD hS => ?_)
          refine W.widen (k := cells + 3 * (f + 1 + 1)) (n := slots + 18 * (f + 1 + 1)) (by omega) (by omega) ?_
          exact kk _ _ _ us2 hn2 hl hP hD hS
        · refine lv_iconst (v := (1 : Int32)) hx hb dL_holds_476 (by decide) ?_
          refine lv_goto (tgt := 481) hx hb dL_holds_477 (by decide) ?_
          refine lv_iadd hx hb dL_holds_481 ?_
          refine lv_istore (lv' := [(16, .int (us + (1 : Int32))), (17, .int (nI i)), (15, .int tk), (14, .int can), (13, .int kd), (12, .int h), (11, .int (1 : Int32)), (2, .int (uN (sU (pN z)))), (0, .ref (xa 0)), (1, .int x)]) hx hb dL_holds_482 hl (by decide) rfl (fun ls hl => ?_)
          refine lv_iinc (v := ((nI i) + (1 : Int32))) (lv' := [(17, .int ((nI i) + (1 : Int32))), (16, .int (us + (1 : Int32))), (15, .int tk), (14, .int can), (13, .int kd), (12, .int h), (11, .int (1 : Int32)), (2, .int (uN (sU (pN z)))), (0, .ref (xa 0)), (1, .int x)]) hx hb dL_holds_484 hl (k := 1) rfl rfl (by decide) rfl (fun ls hl => ?_)
          refine lv_goto (tgt := 426) hx hb dL_holds_487 (by decide) ?_
          have hl : lv_has ls 28 [(17, .int (nI i + (1 : Int32))), (16, .int (us + (1 : Int32))), (15, .int tk), (14, .int can), (13, .int kd), (12, .int h), (11, .int (1 : Int32)), (2, .int (uN (sU (pN z)))), (0, .ref (xa 0)), (1, .int x)] := lv_sub hl [0, 1, 2, 3, 4, 5, 6, 7, 8, 9] rfl
          refine W.widen (k := cells + 3) (n := slots + 18) (by omega) (by omega) ?_
          have cl := ct_le (pU (sU (pN z)) h kd) i
          have e1 : (us + 1).toInt = ((ct (pU (sU (pN z)) h kd) (i + 1) : Nat) : Int) := by rw [ct_s, if_pos (by unfold pU; rw [decide_eq_true_eq]; exact ⟨⟨k1, k2⟩, k3⟩), i32_add (by rw [i32_1]; omega) (by rw [i32_1]; omega), i32_1]; omega
          rw [nI_1] at hl
          refine ih (i + 1) (us + (1 : Int32)) (by omega) e1 (by omega) (by omega) hl hP hD hS (fun ls H locs us2 hn2 hl hP hD hS => ?_)
          refine W.widen (k := cells + 3 * (f + 1 + 1)) (n := slots + 18 * (f + 1 + 1)) (by omega) (by omega) ?_
          exact kk _ _ _ us2 hn2 hl hP hD hS
set_option maxRecDepth 20000 in
theorem w_h6a {p : Program} {l : Launch} {e : Env} {s : State} {m : MethodId} {below : List Frame} {meth : Method} {c : Code} {D : va_G} {cy : Nat → ClassId} {t : FxA} {A : Nat → Prop} {Q : State → Prop} {xa sa sb tr na : Nat → Nat} {ka : Nat → Nat → Nat} {x : Int32} (C0 : LR p l s m meth c ([.ref (xa 0), .int x] : List Value).toArray cL_holds 28 wc_holds (some .boolean) D cy t A) {z : SpT} {us tk can kd h : Int32} (i1 : iv 0 16 can) (i2 : iv 0 48 tk) (i3 : us.toInt ≤ can.toInt) (i4 : tk.toInt ≤ 3 * can.toInt) (i5 : 0 < tk.toInt ∨ can.toInt = us.toInt) (i6 : us.toInt < can.toInt ∨ tk.toInt = 0) {cells slots : Nat} (hc : cells + 0 ≤ 3000) (hs : slots + 0 ≤ 18000) {H : Heap} {locs : List Loc} {ls : Array Slot} (hl : lv_has ls 28 [(16, .int us), (15, .int tk), (14, .int can), (13, .int kd), (12, .int h), (11, .int (1 : Int32)), (2, .int (uN (sU (pN z)))), (0, .ref (xa 0)), (1, .int x)]) (hP : va_P D vwCl (wSp cy xa sa sb tr na ka z) H) (hD : va_D A (wSp cy xa sa sb tr na ka z)) (hS : va_S A s.heap H locs) (kk : ∀ (ls : Array Slot) (H : Heap) (locs : List Loc), lv_has ls 28 [(16, .int us), (15, .int tk), (14, .int can), (13, .int kd), (12, .int h), (11, .int (1 : Int32)), (2, .int (uN (sU (pN z)))), (0, .ref (xa 0)), (1, .int x)] → va_P D vwCl (wSp cy xa sa sb tr na ka z) H → va_D A (wSp cy xa sa sb tr na ka z) → va_S A s.heap H locs → @Wx p l e ({ frames := 10, cells := 3000, slots := 18000, locals := 300 } : Room) s m ([.ref (xa 0), .int x] : List Value).toArray below meth c H locs (cells + 0) (slots + 0) Q (F0 m 523 ls [])) : @Wx p l e ({ frames := 10, cells := 3000, slots := 18000, locals := 300 } : Room) s m ([.ref (xa 0), .int x] : List Value).toArray below meth c H locs cells slots Q (F0 m 490 ls []) := by
  obtain ⟨hx, hb, hr, hlocks, hts, hown, hCF, hG, hF, hA, hl0⟩ := C0
  refine lv_iload hx hb dL_holds_490 (lv_at hl 5 rfl) ?_
  refine lv_if_eq (tgt := 539) hx hb dL_holds_492 (by decide) (fun q => absurd q (by decide)) (fun _ => ?_)
  refine lv_iload hx hb dL_holds_495 (lv_at hl 2 rfl) ?_
  refine lv_iload hx hb dL_holds_497 (lv_at hl 0 rfl) ?_
  refine lv_icmp_lt (tgt := 539) hx hb dL_holds_499 (by decide) (fun q => absurd q (by rw [i32_lt]; omega)) (fun _ => ?_)
  refine lv_iload hx hb dL_holds_502 (lv_at hl 1 rfl) ?_
  refine lv_iconst (v := (3 : Int32)) hx hb dL_holds_504 (by decide) ?_
  refine lv_iload hx hb dL_holds_505 (lv_at hl 2 rfl) ?_
  refine lv_imul hx hb dL_holds_507 ?_
  refine lv_icmp_gt (tgt := 539) hx hb dL_holds_508 (by decide) (fun q => absurd q (by have a := i1.1; have b := i1.2; rw [i32_lt, i32_mul (by rw [ii3]; omega) (by rw [ii3]; omega), ii3]; omega)) (fun _ => ?_)
  refine lv_iload hx hb dL_holds_511 (lv_at hl 1 rfl) ?_
  refine lv_if_gt (tgt := 523) hx hb dL_holds_513 (by decide) (fun c1 => ?_) (fun c1 => ?_)
  · refine W.widen (k := cells + 0) (n := slots + 0) (by omega) (by omega) ?_
    exact kk _ _ _ hl hP hD hS
  · refine lv_iload hx hb dL_holds_516 (lv_at hl 2 rfl) ?_
    refine lv_iload hx hb dL_holds_518 (lv_at hl 0 rfl) ?_
    refine lv_icmp_ne (tgt := 539) hx hb dL_holds_520 (by decide) (fun q => absurd (i32_eq (i5.resolve_left (fun e => c1 (by rw [i32_lt, i32_0]; exact e)))) q) (fun _ => ?_)
    refine W.widen (k := cells + 0) (n := slots + 0) (by omega) (by omega) ?_
    exact kk _ _ _ hl hP hD hS
set_option maxRecDepth 20000 in
theorem w_h6b {p : Program} {l : Launch} {e : Env} {s : State} {m : MethodId} {below : List Frame} {meth : Method} {c : Code} {D : va_G} {cy : Nat → ClassId} {t : FxA} {A : Nat → Prop} {Q : State → Prop} {xa sa sb tr na : Nat → Nat} {ka : Nat → Nat → Nat} {x : Int32} (C0 : LR p l s m meth c ([.ref (xa 0), .int x] : List Value).toArray cL_holds 28 wc_holds (some .boolean) D cy t A) {z : SpT} {us tk can kd h : Int32} (i1 : iv 0 16 can) (i2 : iv 0 48 tk) (i3 : us.toInt ≤ can.toInt) (i4 : tk.toInt ≤ 3 * can.toInt) (i5 : 0 < tk.toInt ∨ can.toInt = us.toInt) (i6 : us.toInt < can.toInt ∨ tk.toInt = 0) {cells slots : Nat} (hc : cells + 0 ≤ 3000) (hs : slots + 0 ≤ 18000) {H : Heap} {locs : List Loc} {ls : Array Slot} (hl : lv_has ls 28 [(16, .int us), (15, .int tk), (14, .int can), (13, .int kd), (12, .int h), (11, .int (1 : Int32)), (2, .int (uN (sU (pN z)))), (0, .ref (xa 0)), (1, .int x)]) (hP : va_P D vwCl (wSp cy xa sa sb tr na ka z) H) (hD : va_D A (wSp cy xa sa sb tr na ka z)) (hS : va_S A s.heap H locs) (kk : ∀ (ls : Array Slot) (H : Heap) (locs : List Loc), lv_has ls 28 [(18, .int (0 : Int32)), (17, .int (0 : Int32)), (15, .int tk), (14, .int can), (13, .int kd), (12, .int h), (11, .int (1 : Int32)), (2, .int (uN (sU (pN z)))), (0, .ref (xa 0)), (1, .int x)] → va_P D vwCl (wSp cy xa sa sb tr na ka z) H → va_D A (wSp cy xa sa sb tr na ka z) → va_S A s.heap H locs → @Wx p l e ({ frames := 10, cells := 3000, slots := 18000, locals := 300 } : Room) s m ([.ref (xa 0), .int x] : List Value).toArray below meth c H locs (cells + 0) (slots + 0) Q (F0 m 548 ls [])) : @Wx p l e ({ frames := 10, cells := 3000, slots := 18000, locals := 300 } : Room) s m ([.ref (xa 0), .int x] : List Value).toArray below meth c H locs cells slots Q (F0 m 523 ls []) := by
  obtain ⟨hx, hb, hr, hlocks, hts, hown, hCF, hG, hF, hA, hl0⟩ := C0
  refine lv_iload hx hb dL_holds_523 (lv_at hl 2 rfl) ?_
  refine lv_iload hx hb dL_holds_525 (lv_at hl 0 rfl) ?_
  refine lv_icmp_gt (tgt := 535) hx hb dL_holds_527 (by decide) (fun c1 => ?_) (fun c1 => ?_)
  · refine lv_iconst (v := (1 : Int32)) hx hb dL_holds_535 (by decide) ?_
    refine lv_goto (tgt := 540) hx hb dL_holds_536 (by decide) ?_
    refine lv_istore (lv' := [(11, .int (1 : Int32)), (16, .int us), (15, .int tk), (14, .int can), (13, .int kd), (12, .int h), (2, .int (uN (sU (pN z)))), (0, .ref (xa 0)), (1, .int x)]) hx hb dL_holds_540 hl (by decide) rfl (fun ls hl => ?_)
    refine lv_iconst (v := (0 : Int32)) hx hb dL_holds_542 (by decide) ?_
    refine lv_istore (lv' := [(17, .int (0 : Int32)), (11, .int (1 : Int32)), (16, .int us), (15, .int tk), (14, .int can), (13, .int kd), (12, .int h), (2, .int (uN (sU (pN z)))), (0, .ref (xa 0)), (1, .int x)]) hx hb dL_holds_543 hl (by decide) rfl (fun ls hl => ?_)
    refine lv_iconst (v := (0 : Int32)) hx hb dL_holds_545 (by decide) ?_
    refine lv_istore (lv' := [(18, .int (0 : Int32)), (17, .int (0 : Int32)), (11, .int (1 : Int32)), (16, .int us), (15, .int tk), (14, .int can), (13, .int kd), (12, .int h), (2, .int (uN (sU (pN z)))), (0, .ref (xa 0)), (1, .int x)]) hx hb dL_holds_546 hl (by decide) rfl (fun ls hl => ?_)
    have hl : lv_has ls 28 [(18, .int (0 : Int32)), (17, .int (0 : Int32)), (15, .int tk), (14, .int can), (13, .int kd), (12, .int h), (11, .int (1 : Int32)), (2, .int (uN (sU (pN z)))), (0, .ref (xa 0)), (1, .int x)] := lv_sub hl [0, 1, 4, 5, 6, 7, 2, 8, 9, 10] rfl
    refine W.widen (k := cells + 0) (n := slots + 0) (by omega) (by omega) ?_
    exact kk _ _ _ hl hP hD hS
  · refine lv_iload hx hb dL_holds_530 (lv_at hl 1 rfl) ?_
    refine lv_if_ne (tgt := 539) hx hb dL_holds_532 (by decide) (fun q => absurd (i32_eq (by rw [i32_0]; exact i6.resolve_left (fun e => c1 (by rw [i32_lt]; exact e)))) q) (fun _ => ?_)
    refine lv_iconst (v := (1 : Int32)) hx hb dL_holds_535 (by decide) ?_
    refine lv_goto (tgt := 540) hx hb dL_holds_536 (by decide) ?_
    refine lv_istore (lv' := [(11, .int (1 : Int32)), (16, .int us), (15, .int tk), (14, .int can), (13, .int kd), (12, .int h), (2, .int (uN (sU (pN z)))), (0, .ref (xa 0)), (1, .int x)]) hx hb dL_holds_540 hl (by decide) rfl (fun ls hl => ?_)
    refine lv_iconst (v := (0 : Int32)) hx hb dL_holds_542 (by decide) ?_
    refine lv_istore (lv' := [(17, .int (0 : Int32)), (11, .int (1 : Int32)), (16, .int us), (15, .int tk), (14, .int can), (13, .int kd), (12, .int h), (2, .int (uN (sU (pN z)))), (0, .ref (xa 0)), (1, .int x)]) hx hb dL_holds_543 hl (by decide) rfl (fun ls hl => ?_)
    refine lv_iconst (v := (0 : Int32)) hx hb dL_holds_545 (by decide) ?_
    refine lv_istore (lv' := [(18, .int (0 : Int32)), (17, .int (0 : Int32)), (11, .int (1 : Int32)), (16, .int us), (15, .int tk), (14, .int can), (13, .int kd), (12, .int h), (2, .int (uN (sU (pN z)))), (0, .ref (xa 0)), (1, .int x)]) hx hb dL_holds_546 hl (by decide) rfl (fun ls hl => ?_)
    have hl : lv_has ls 28 [(18, .int (0 : Int32)), (17, .int (0 : Int32)), (15, .int tk), (14, .int can), (13, .int kd), (12, .int h), (11, .int (1 : Int32)), (2, .int (uN (sU (pN z)))), (0, .ref (xa 0)), (1, .int x)] := lv_sub hl [0, 1, 4, 5, 6, 7, 2, 8, 9, 10] rfl
    refine W.widen (k := cells + 0) (n := slots + 0) (by omega) (by omega) ?_
    exact kk _ _ _ hl hP hD hS
