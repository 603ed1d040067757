theorem i24 {a : Int32} (h : 0 ≤ a.toInt ∧ a.toInt < 24) : a = 0 ∨ a = 1 ∨ a = 2 ∨ a = 3 ∨ a = 4 ∨ a = 5 ∨ a = 6 ∨ a = 7 ∨ a = 8 ∨ a = 9 ∨ a = 10 ∨ a = 11 ∨ a = 12 ∨ a = 13 ∨ a = 14 ∨ a = 15 ∨ a = 16 ∨ a = 17 ∨ a = 18 ∨ a = 19 ∨ a = 20 ∨ a = 21 ∨ a = 22 ∨ a = 23 := by
  have k : ∀ n : Nat, n < 24 → (Int32.ofNat n = 0 ∨ Int32.ofNat n = 1 ∨ Int32.ofNat n = 2 ∨ Int32.ofNat n = 3 ∨ Int32.ofNat n = 4 ∨ Int32.ofNat n = 5 ∨ Int32.ofNat n = 6 ∨ Int32.ofNat n = 7 ∨ Int32.ofNat n = 8 ∨ Int32.ofNat n = 9 ∨ Int32.ofNat n = 10 ∨ Int32.ofNat n = 11 ∨ Int32.ofNat n = 12 ∨ Int32.ofNat n = 13 ∨ Int32.ofNat n = 14 ∨ Int32.ofNat n = 15 ∨ Int32.ofNat n = 16 ∨ Int32.ofNat n = 17 ∨ Int32.ofNat n = 18 ∨ Int32.ofNat n = 19 ∨ Int32.ofNat n = 20 ∨ Int32.ofNat n = 21 ∨ Int32.ofNat n = 22 ∨ Int32.ofNat n = 23) := by decide +kernel
  have e : a = Int32.ofNat a.toInt.toNat := i32_eq (by rw [Int32.toInt_ofNat_of_lt (by omega)]; omega)
  rw [e]
  exact k _ (by omega)
/-! p35: the contract of act -/
set_option maxRecDepth 20000 in
theorem w_act51 {p : Program} {l : Launch} {e : Env} {s : State} {m : MethodId} {below : List Frame} {meth : Method} {c : Code} {D : va_G} {cy : Nat → ClassId} {t : FxA} {A : Nat → Prop} {xa sa sb tr na : Nat → Nat} {ka : Nat → Nat → Nat} {z : SpT} {x y : Int32} (C0 : LR p l s m meth c ([.ref (xa 0), .int x, .int y] : List Value).toArray cL_act 7 wc_act (some .int) D cy t A) {u9 v9 h9 : Int32} (hx0 : 0 ≤ x.toInt) {T : Int} {mo : MoT} (H9 : PR T z mo) (h0 : 100000 ≤ T) (h1 : T ≤ 900000) {cells slots : Nat} (hc : cells + 7 ≤ 20) (hs : slots + 42 ≤ 120) {H : Heap} {locs : List Loc} {ls : Array Slot} (hl : lv_has ls 7 [(6, .int h9), (5, .int v9), (4, .int u9), (3, .int (uN (sU (pN z)))), (0, .ref (xa 0)), (1, .int x), (2, .int y)]) (hP : va_P D vwCl (wSp cy xa sa sb tr na ka z) H) (hD : va_D A (wSp cy xa sa sb tr na ka z)) (hS : va_S A s.heap H locs) : @Wx p l e ({ frames := 10, cells := 20, slots := 120, locals := 300 } : Room) s m ([.ref (xa 0), .int x, .int y] : List Value).toArray below meth c H locs cells slots (MQ below (va_Qi (fun r (_ : Unit) => r = (actQ z (rmJ x 24).toInt.toNat u9 v9 h9 y).1) (fun _ t => va_P D vwCl (wSp cy xa sa sb tr na ka (actQ z (rmJ x 24).toInt.toNat u9 v9 h9 y).2) t.heap) A) ([.ref (xa 0), .int x, .int y] : List Value).toArray s 20 120 A) (F0 m 47 ls []) := by
  have C1 := C0
  obtain ⟨hx, hb, hr, hlocks, hts, hown, hCF, hG, hF, hA, hl0⟩ := C0
  have oz : OKz z := ⟨_, _, h0, by omega, H9⟩
  refine lv_iload_n hx hb dL_act_47 rfl (lv_at hl 5 rfl) ?_
  refine lv_bipush (v := (24 : Int32)) hx hb dL_act_48 (by decide) ?_
  refine lv_irem hx hb dL_act_50 (by decide) ?_
  have r24 : 0 ≤ (rmJ x 24).toInt ∧ (rmJ x 24).toInt < 24 := by rw [rmJ_n hx0 (K := 24) (by decide) (by decide)]; omega
  have cs : rmJ x 24 = 0 ∨ rmJ x 24 = 1 ∨ rmJ x 24 = 2 ∨ rmJ x 24 = 3 ∨ rmJ x 24 = 4 ∨ rmJ x 24 = 5 ∨ rmJ x 24 = 6 ∨ rmJ x 24 = 7 ∨ rmJ x 24 = 8 ∨ rmJ x 24 = 9 ∨ rmJ x 24 = 10 ∨ rmJ x 24 = 11 ∨ rmJ x 24 = 12 ∨ rmJ x 24 = 13 ∨ rmJ x 24 = 14 ∨ rmJ x 24 = 15 ∨ rmJ x 24 = 16 ∨ rmJ x 24 = 17 ∨ rmJ x 24 = 18 ∨ rmJ x 24 = 19 ∨ rmJ x 24 = 20 ∨ rmJ x 24 = 21 ∨ rmJ x 24 = 22 ∨ rmJ x 24 = 23 := i24 r24
  rcases cs with e | e | e | e | e | e | e | e | e | e | e | e | e | e | e | e | e | e | e | e | e | e | e | e
  · rw [show x - x / 24 * 24 = (0 : Int32) from e, e]
    show @Wx _ _ _ _ _ _ _ _ _ _ _ _ _ _ (MQ below (va_Qi (fun r (_ : Unit) => r = (actQ z 0 u9 v9 h9 y).1) (fun _ t => va_P D vwCl (wSp cy xa sa sb tr na ka (actQ z 0 u9 v9 h9 y).2) t.heap) A) ([.ref (xa 0), .int x, .int y] : List Value).toArray s 20 120 A) _
    refine lv_tableIn (tgt := 140) hx hb dL_act_51 (by decide) (by decide) rfl (by decide) ?_
    exact w_act0 C1 oz hc hs hl hP hD hS
  · rw [show x - x / 24 * 24 = (1 : Int32) from e, e]
    show @Wx _ _ _ _ _ _ _ _ _ _ _ _ _ _ (MQ below (va_Qi (fun r (_ : Unit) => r = (actQ z 0 u9 v9 h9 y).1) (fun _ t => va_P D vwCl (wSp cy xa sa sb tr na ka (actQ z 0 u9 v9 h9 y).2) t.heap) A) ([.ref (xa 0), .int x, .int y] : List Value).toArray s 20 120 A) _
    refine lv_tableIn (tgt := 140) hx hb dL_act_51 (by decide) (by decide) rfl (by decide) ?_
    exact w_act0 C1 oz hc hs hl hP hD hS
  · rw [show x - x / 24 * 24 = (2 : Int32) from e, e]
    show @Wx _ _ _ _ _ _ _ _ _ _ _ _ _ _ (MQ below (va_Qi (fun r (_ : Unit) => r = (actQ z 0 u9 v9 h9 y).1) (fun _ t => va_P D vwCl (wSp cy xa sa sb tr na ka (actQ z 0 u9 v9 h9 y).2) t.heap) A) ([.ref (xa 0), .int x, .int y] : List Value).toArray s 20 120 A) _
    refine lv_tableIn (tgt := 140) hx hb dL_act_51 (by decide) (by decide) rfl (by decide) ?_
    exact w_act0 C1 oz hc hs hl hP hD hS
  · rw [show x - x / 24 * 24 = (3 : Int32) from e, e]
    show @Wx _ _ _ _ _ _ _ _ _ _ _ _ _ _ (MQ below (va_Qi (fun r (_ : Unit) => r = (actQ z 3 u9 v9 h9 y).1) (fun _ t => va_P D vwCl (wSp cy xa sa sb tr na ka (actQ z 3 u9 v9 h9 y).2) t.heap) A) ([.ref (xa 0), .int x, .int y] : List Value).toArray s 20 120 A) _
    refine lv_tableIn (tgt := 196) hx hb dL_act_51 (by decide) (by decide) rfl (by decide) ?_
    exact w_act3 C1 oz hc hs hl hP hD hS
  · rw [show x - x / 24 * 24 = (4 : Int32) from e, e]
    show @Wx _ _ _ _ _ _ _ _ _ _ _ _ _ _ (MQ below (va_Qi (fun r (_ : Unit) => r = (actQ z 3 u9 v9 h9 y).1) (fun _ t => va_P D vwCl (wSp cy xa sa sb tr na ka (actQ z 3 u9 v9 h9 y).2) t.heap) A) ([.ref (xa 0), .int x, .int y] : List Value).toArray s 20 120 A) _
    refine lv_tableIn (tgt := 196) hx hb dL_act_51 (by decide) (by decide) rfl (by decide) ?_
    exact w_act3 C1 oz hc hs hl hP hD hS
  · rw [show x - x / 24 * 24 = (5 : Int32) from e, e]
    show @Wx _ _ _ _ _ _ _ _ _ _ _ _ _ _ (MQ below (va_Qi (fun r (_ : Unit) => r = (actQ z 3 u9 v9 h9 y).1) (fun _ t => va_P D vwCl (wSp cy xa sa sb tr na ka (actQ z 3 u9 v9 h9 y).2) t.heap) A) ([.ref (xa 0), .int x, .int y] : List Value).toArray s 20 120 A) _
    refine lv_tableIn (tgt := 196) hx hb dL_act_51 (by decide) (by decide) rfl (by decide) ?_
    exact w_act3 C1 oz hc hs hl hP hD hS
  · rw [show x - x / 24 * 24 = (6 : Int32) from e, e]
    show @Wx _ _ _ _ _ _ _ _ _ _ _ _ _ _ (MQ below (va_Qi (fun r (_ : Unit) => r = (actQ z 6 u9 v9 h9 y).1) (fun _ t => va_P D vwCl (wSp cy xa sa sb tr na ka (actQ z 6 u9 v9 h9 y).2) t.heap) A) ([.ref (xa 0), .int x, .int y] : List Value).toArray s 20 120 A) _
    refine lv_tableIn (tgt := 217) hx hb dL_act_51 (by decide) (by decide) rfl (by decide) ?_
    exact w_act6 C1 oz hc hs hl hP hD hS
  · rw [show x - x / 24 * 24 = (7 : Int32) from e, e]
    show @Wx _ _ _ _ _ _ _ _ _ _ _ _ _ _ (MQ below (va_Qi (fun r (_ : Unit) => r = (actQ z 7 u9 v9 h9 y).1) (fun _ t => va_P D vwCl (wSp cy xa sa sb tr na ka (actQ z 7 u9 v9 h9 y).2) t.heap) A) ([.ref (xa 0), .int x, .int y] : List Value).toArray s 20 120 A) _
    refine lv_tableIn (tgt := 228) hx hb dL_act_51 (by decide) (by decide) rfl (by decide) ?_
    exact w_act7 C1 oz hc hs hl hP hD hS
  · rw [show x - x / 24 * 24 = (8 : Int32) from e, e]
    show @Wx _ _ _ _ _ _ _ _ _ _ _ _ _ _ (MQ below (va_Qi (fun r (_ : Unit) => r = (actQ z 7 u9 v9 h9 y).1) (fun _ t => va_P D vwCl (wSp cy xa sa sb tr na ka (actQ z 7 u9 v9 h9 y).2) t.heap) A) ([.ref (xa 0), .int x, .int y] : List Value).toArray s 20 120 A) _
    refine lv_tableIn (tgt := 228) hx hb dL_act_51 (by decide) (by decide) rfl (by decide) ?_
    exact w_act7 C1 oz hc hs hl hP hD hS
  · rw [show x - x / 24 * 24 = (9 : Int32) from e, e]
    show @Wx _ _ _ _ _ _ _ _ _ _ _ _ _ _ (MQ below (va_Qi (fun r (_ : Unit) => r = (actQ z 9 u9 v9 h9 y).1) (fun _ t => va_P D vwCl (wSp cy xa sa sb tr na ka (actQ z 9 u9 v9 h9 y).2) t.heap) A) ([.ref (xa 0), .int x, .int y] : List Value).toArray s 20 120 A) _
    refine lv_tableIn (tgt := 240) hx hb dL_act_51 (by decide) (by decide) rfl (by decide) ?_
    exact w_act9 C1 oz hc hs hl hP hD hS
  · rw [show x - x / 24 * 24 = (10 : Int32) from e, e]
    show @Wx _ _ _ _ _ _ _ _ _ _ _ _ _ _ (MQ below (va_Qi (fun r (_ : Unit) => r = (actQ z 9 u9 v9 h9 y).1) (fun _ t => va_P D vwCl (wSp cy xa sa sb tr na ka (actQ z 9 u9 v9 h9 y).2) t.heap) A) ([.ref (xa 0), .int x, .int y] : List Value).toArray s 20 120 A) _
    refine lv_tableIn (tgt := 240) hx hb dL_act_51 (by decide) (by decide) rfl (by decide) ?_
    exact w_act9 C1 oz hc hs hl hP hD hS
  · rw [show x - x / 24 * 24 = (11 : Int32) from e, e]
    show @Wx _ _ _ _ _ _ _ _ _ _ _ _ _ _ (MQ below (va_Qi (fun r (_ : Unit) => r = (actQ z 11 u9 v9 h9 y).1) (fun _ t => va_P D vwCl (wSp cy xa sa sb tr na ka (actQ z 11 u9 v9 h9 y).2) t.heap) A) ([.ref (xa 0), .int x, .int y] : List Value).toArray s 20 120 A) _
    refine lv_tableIn (tgt := 261) hx hb dL_act_51 (by decide) (by decide) rfl (by decide) ?_
    exact w_act11 C1 oz hc hs hl hP hD hS
  · rw [show x - x / 24 * 24 = (12 : Int32) from e, e]
    show @Wx _ _ _ _ _ _ _ _ _ _ _ _ _ _ (MQ below (va_Qi (fun r (_ : Unit) => r = (actQ z 12 u9 v9 h9 y).1) (fun _ t => va_P D vwCl (wSp cy xa sa sb tr na ka (actQ z 12 u9 v9 h9 y).2) t.heap) A) ([.ref (xa 0), .int x, .int y] : List Value).toArray s 20 120 A) _
    refine lv_tableIn (tgt := 272) hx hb dL_act_51 (by decide) (by decide) rfl (by decide) ?_
    exact w_act12 C1 oz hc hs hl hP hD hS
  · rw [show x - x / 24 * 24 = (13 : Int32) from e, e]
    show @Wx _ _ _ _ _ _ _ _ _ _ _ _ _ _ (MQ below (va_Qi (fun r (_ : Unit) => r = (actQ z 13 u9 v9 h9 y).1) (fun _ t => va_P D vwCl (wSp cy xa sa sb tr na ka (actQ z 13 u9 v9 h9 y).2) t.heap) A) ([.ref (xa 0), .int x, .int y] : List Value).toArray s 20 120 A) _
    refine lv_tableIn (tgt := 294) hx hb dL_act_51 (by decide) (by decide) rfl (by decide) ?_
    exact w_act13 C1 oz hc hs hl hP hD hS
  · rw [show x - x / 24 * 24 = (14 : Int32) from e, e]
    show @Wx _ _ _ _ _ _ _ _ _ _ _ _ _ _ (MQ below (va_Qi (fun r (_ : Unit) => r = (actQ z 14 u9 v9 h9 y).1) (fun _ t => va_P D vwCl (wSp cy xa sa sb tr na ka (actQ z 14 u9 v9 h9 y).2) t.heap) A) ([.ref (xa 0), .int x, .int y] : List Value).toArray s 20 120 A) _
    refine lv_tableIn (tgt := 310) hx hb dL_act_51 (by decide) (by decide) rfl (by decide) ?_
    exact w_act14 C1 oz hc hs hl hP hD hS
  · rw [show x - x / 24 * 24 = (15 : Int32) from e, e]
    show @Wx _ _ _ _ _ _ _ _ _ _ _ _ _ _ (MQ below (va_Qi (fun r (_ : Unit) => r = (actQ z 15 u9 v9 h9 y).1) (fun _ t => va_P D vwCl (wSp cy xa sa sb tr na ka (actQ z 15 u9 v9 h9 y).2) t.heap) A) ([.ref (xa 0), .int x, .int y] : List Value).toArray s 20 120 A) _
    refine lv_tableIn (tgt := 327) hx hb dL_act_51 (by decide) (by decide) rfl (by decide) ?_
    exact w_act15 C1 oz hc hs hl hP hD hS
  · rw [show x - x / 24 * 24 = (16 : Int32) from e, e]
    show @Wx _ _ _ _ _ _ _ _ _ _ _ _ _ _ (MQ below (va_Qi (fun r (_ : Unit) => r = (actQ z 16 u9 v9 h9 y).1) (fun _ t => va_P D vwCl (wSp cy xa sa sb tr na ka (actQ z 16 u9 v9 h9 y).2) t.heap) A) ([.ref (xa 0), .int x, .int y] : List Value).toArray s 20 120 A) _
    refine lv_tableIn (tgt := 337) hx hb dL_act_51 (by decide) (by decide) rfl (by decide) ?_
    exact w_act16 C1 oz hc hs hl hP hD hS
  · rw [show x - x / 24 * 24 = (17 : Int32) from e, e]
    show @Wx _ _ _ _ _ _ _ _ _ _ _ _ _ _ (MQ below (va_Qi (fun r (_ : Unit) => r = (actQ z 17 u9 v9 h9 y).1) (fun _ t => va_P D vwCl (wSp cy xa sa sb tr na ka (actQ z 17 u9 v9 h9 y).2) t.heap) A) ([.ref (xa 0), .int x, .int y] : List Value).toArray s 20 120 A) _
    refine lv_tableIn (tgt := 349) hx hb dL_act_51 (by decide) (by decide) rfl (by decide) ?_
    exact w_act17 C1 oz hc hs hl hP hD hS
  · rw [show x - x / 24 * 24 = (18 : Int32) from e, e]
    show @Wx _ _ _ _ _ _ _ _ _ _ _ _ _ _ (MQ below (va_Qi (fun r (_ : Unit) => r = (actQ z 18 u9 v9 h9 y).1) (fun _ t => va_P D vwCl (wSp cy xa sa sb tr na ka (actQ z 18 u9 v9 h9 y).2) t.heap) A) ([.ref (xa 0), .int x, .int y] : List Value).toArray s 20 120 A) _
    refine lv_tableIn (tgt := 361) hx hb dL_act_51 (by decide) (by decide) rfl (by decide) ?_
    exact w_act18 C1 H9 h0 h1 hc hs hl hP hD hS
  · rw [show x - x / 24 * 24 = (19 : Int32) from e, e]
    show @Wx _ _ _ _ _ _ _ _ _ _ _ _ _ _ (MQ below (va_Qi (fun r (_ : Unit) => r = (actQ z 19 u9 v9 h9 y).1) (fun _ t => va_P D vwCl (wSp cy xa sa sb tr na ka (actQ z 19 u9 v9 h9 y).2) t.heap) A) ([.ref (xa 0), .int x, .int y] : List Value).toArray s 20 120 A) _
    refine lv_tableOut (tgt := 454) hx hb dL_act_51 (by decide) (by decide) ?_
    exact w_act19 C1 oz hc hs hl hP hD hS
  · rw [show x - x / 24 * 24 = (20 : Int32) from e, e]
    show @Wx _ _ _ _ _ _ _ _ _ _ _ _ _ _ (MQ below (va_Qi (fun r (_ : Unit) => r = (actQ z 19 u9 v9 h9 y).1) (fun _ t => va_P D vwCl (wSp cy xa sa sb tr na ka (actQ z 19 u9 v9 h9 y).2) t.heap) A) ([.ref (xa 0), .int x, .int y] : List Value).toArray s 20 120 A) _
    refine lv_tableOut (tgt := 454) hx hb dL_act_51 (by decide) (by decide) ?_
    exact w_act19 C1 oz hc hs hl hP hD hS
  · rw [show x - x / 24 * 24 = (21 : Int32) from e, e]
    show @Wx _ _ _ _ _ _ _ _ _ _ _ _ _ _ (MQ below (va_Qi (fun r (_ : Unit) => r = (actQ z 19 u9 v9 h9 y).1) (fun _ t => va_P D vwCl (wSp cy xa sa sb tr na ka (actQ z 19 u9 v9 h9 y).2) t.heap) A) ([.ref (xa 0), .int x, .int y] : List Value).toArray s 20 120 A) _
    refine lv_tableOut (tgt := 454) hx hb dL_act_51 (by decide) (by decide) ?_
    exact w_act19 C1 oz hc hs hl hP hD hS
  · rw [show x - x / 24 * 24 = (22 : Int32) from e, e]
    show @Wx _ _ _ _ _ _ _ _ _ _ _ _ _ _ (MQ below (va_Qi (fun r (_ : Unit) => r = (actQ z 19 u9 v9 h9 y).1) (fun _ t => va_P D vwCl (wSp cy xa sa sb tr na ka (actQ z 19 u9 v9 h9 y).2) t.heap) A) ([.ref (xa 0), .int x, .int y] : List Value).toArray s 20 120 A) _
    refine lv_tableOut (tgt := 454) hx hb dL_act_51 (by decide) (by decide) ?_
    exact w_act19 C1 oz hc hs hl hP hD hS
  · rw [show x - x / 24 * 24 = (23 : Int32) from e, e]
    show @Wx _ _ _ _ _ _ _ _ _ _ _ _ _ _ (MQ below (va_Qi (fun r (_ : Unit) => r = (actQ z 19 u9 v9 h9 y).1) (fun _ t => va_P D vwCl (wSp cy xa sa sb tr na ka (actQ z 19 u9 v9 h9 y).2) t.heap) A) ([.ref (xa 0), .int x, .int y] : List Value).toArray s 20 120 A) _
    refine lv_tableOut (tgt := 454) hx hb dL_act_51 (by decide) (by decide) ?_
    exact w_act19 C1 oz hc hs hl hP hD hS
set_option maxRecDepth 20000 in
theorem c_L_act (l : Launch) (hl0 : l.stackTraces = false) (D : va_G) (cy : Nat → ClassId) (t : FxA) (xa sa sb tr na : Nat → Nat) (ka : Nat → Nat → Nat) {z : SpT} {T : Int} {mo : MoT} (H9 : PR T z mo) (h0 : 100000 ≤ T) (h1 : T ≤ 900000) {x y : Int32} (hx0 : 0 ≤ x.toInt) : HW 10 20 120 300 l D cy t yL_act wc_act (wSp cy xa sa sb tr na ka z) (wSp cy xa sa sb tr na ka (actP z x y).2) [.ref (xa 0), .int x, .int y] (actP z x y).1 := by
  refine HW.body (by decide) rfl (Nat.le_of_ble_eq_true rfl) ?_
  intro p e s m below meth c hx hb hml hr hts hown hlocks hP hG ls hl A hD hA hS hF
  have hl : lv_has ls 7 [(0, .ref (xa 0)), (1, .int x), (2, .int y)] := hl
  have hCF : CallFix p m c cL_act 7 s ([.ref (xa 0), .int x, .int y] : List Value).toArray wc_act RL := ⟨hx, hb, hml, hown, hts⟩
  have C1 : LR p l s m meth c ([.ref (xa 0), .int x, .int y] : List Value).toArray cL_act 7 wc_act (some .int) D cy t A := ⟨hx, hb, hr, hlocks, hts, hown, hCF, hG, hF, hA, hl0⟩
  have oz : OKz z := ⟨_, _, h0, by omega, H9⟩
  refine lv_aload_n hx hb dL_act_0 rfl (lv_at hl 0 rfl) ?_
  refine lv_iconst (v := (2 : Int32)) hx hb dL_act_1 (by decide) ?_
  refine lv_iconst (v := (1 : Int32)) hx hb dL_act_2 (by decide) ?_
  refine lv_iconst (v := (0 : Int32)) hx hb dL_act_3 (by decide) ?_
  refine lv_iconst (v := (0 : Int32)) hx hb dL_act_4 (by decide) ?_
  refine hwS (A0 := A) (As := [.ref (xa 0), .int (2 : Int32), .int (1 : Int32), .int (0 : Int32), .int (0 : Int32)]) (rest := []) (W1 := (wSp cy xa sa sb tr na ka z)) (W2 := (wSp cy xa sa sb tr na ka z)) (v := (uN (sU (pN z)))) (cq_2 l hl0 D cy t xa sa sb tr na ka oz 1 0 0) hCF gw_L_call.more rfl hq_L_call ⟨Nat.le_of_ble_eq_true rfl, Nat.le_of_ble_eq_true rfl⟩ hG hF hP hD hS hA rfl rfl hl.1 rfl (Nat.le_of_ble_eq_true rfl) dL_act_5 ⟨by show _ ≤ 20; omega, by show _ ≤ 120; omega⟩ (fun H locs hP hD hS => ?_)
  refine lv_istore_n (lv' := [(3, .int (uN (sU (pN z)))), (0, .ref (xa 0)), (1, .int x), (2, .int y)]) hx hb dL_act_8 rfl hl (by decide) rfl (fun ls hl => ?_)
  refine lv_iload_n hx hb dL_act_9 rfl (lv_at hl 0 rfl) ?_
  by_cases hN : (uN (sU (pN z))) = 0
  · refine lv_if_ne (tgt := 17) hx hb dL_act_10 (by decide) (fun q => absurd hN q) (fun _ => ?_)
    refine lv_iconst (v := (0 : Int32)) hx hb dL_act_13 (by decide) ?_
    refine lv_goto (tgt := 20) hx hb dL_act_14 (by decide) ?_
    refine lv_istore (lv' := [(4, .int (0 : Int32)), (3, .int (uN (sU (pN z)))), (0, .ref (xa 0)), (1, .int x), (2, .int y)]) hx hb dL_act_20 hl (by decide) rfl (fun ls hl => ?_)
    refine lv_iload_n hx hb dL_act_22 rfl (lv_at hl 1 rfl) ?_
    refine lv_if_ne (tgt := 30) hx hb dL_act_23 (by decide) (fun q => absurd hN q) (fun _ => ?_)
    refine lv_iconst (v := (0 : Int32)) hx hb dL_act_26 (by decide) ?_
    refine lv_goto (tgt := 36) hx hb dL_act_27 (by decide) ?_
    refine lv_istore (lv' := [(5, .int (0 : Int32)), (4, .int (0 : Int32)), (3, .int (uN (sU (pN z)))), (0, .ref (xa 0)), (1, .int x), (2, .int y)]) hx hb dL_act_36 hl (by decide) rfl (fun ls hl => ?_)
    refine lv_iload_n hx hb dL_act_38 rfl (lv_at hl 5 rfl) ?_
    refine lv_sipush (v := (256 : Int32)) hx hb dL_act_39 (by decide) ?_
    refine lv_idiv hx hb dL_act_42 (by decide) ?_
    refine lv_iconst (v := (5 : Int32)) hx hb dL_act_43 (by decide) ?_
    refine lv_irem hx hb dL_act_44 (by decide) ?_
    refine lv_istore (lv' := [(6, .int (rmJ (y / (256 : Int32)) (5 : Int32))), (5, .int (0 : Int32)), (4, .int (0 : Int32)), (3, .int (uN (sU (pN z)))), (0, .ref (xa 0)), (1, .int x), (2, .int y)]) hx hb dL_act_45 hl (by decide) rfl (fun ls hl => ?_)
    have aq : actP z x y = actQ z (rmJ x 24).toInt.toNat 0 0 (rmJ (y / 256) 5) y := by unfold actP; rw [if_pos hN, if_pos hN]
    rw [aq]
    exact w_act51 C1 hx0 H9 h0 h1 (by omega) (by omega) hl hP hD hS
  · refine lv_if_ne (tgt := 17) hx hb dL_act_10 (by decide) (fun _ => ?_) (fun q => absurd q hN)
    refine lv_iload_n hx hb dL_act_17 rfl (lv_at hl 3 rfl) ?_
    refine lv_iload_n hx hb dL_act_18 rfl (lv_at hl 0 rfl) ?_
    refine lv_irem hx hb dL_act_19 hN ?_
    refine lv_istore (lv' := [(4, .int (rmJ y (uN (sU (pN z))))), (3, .int (uN (sU (pN z)))), (0, .ref (xa 0)), (1, .int x), (2, .int y)]) hx hb dL_act_20 hl (by decide) rfl (fun ls hl => ?_)
    refine lv_iload_n hx hb dL_act_22 rfl (lv_at hl 1 rfl) ?_
    refine lv_if_ne (tgt := 30) hx hb dL_act_23 (by decide) (fun _ => ?_) (fun q => absurd q hN)
    refine lv_iload_n hx hb dL_act_30 rfl (lv_at hl 4 rfl) ?_
    refine lv_bipush (v := (16 : Int32)) hx hb dL_act_31 (by decide) ?_
    refine lv_idiv hx hb dL_act_33 (by decide) ?_
    refine lv_iload_n hx hb dL_act_34 rfl (lv_at hl 1 rfl) ?_
    refine lv_irem hx hb dL_act_35 hN ?_
    refine lv_istore (lv' := [(5, .int (rmJ (y / (16 : Int32)) (uN (sU (pN z))))), (4, .int (rmJ y (uN (sU (pN z))))), (3, .int (uN (sU (pN z)))), (0, .ref (xa 0)), (1, .int x), (2, .int y)]) hx hb dL_act_36 hl (by decide) rfl (fun ls hl => ?_)
    refine lv_iload_n hx hb dL_act_38 rfl (lv_at hl 5 rfl) ?_
    refine lv_sipush (v := (256 : Int32)) hx hb dL_act_39 (by decide) ?_
    refine lv_idiv hx hb dL_act_42 (by decide) ?_
    refine lv_iconst (v := (5 : Int32)) hx hb dL_act_43 (by decide) ?_
    refine lv_irem hx hb dL_act_44 (by decide) ?_
    refine lv_istore (lv' := [(6, .int (rmJ (y / (256 : Int32)) (5 : Int32))), (5, .int (rmJ (y / (16 : Int32)) (uN (sU (pN z))))), (4, .int (rmJ y (uN (sU (pN z))))), (3, .int (uN (sU (pN z)))), (0, .ref (xa 0)), (1, .int x), (2, .int y)]) hx hb dL_act_45 hl (by decide) rfl (fun ls hl => ?_)
    have aq : actP z x y = actQ z (rmJ x 24).toInt.toNat (rmJ y (uN (sU (pN z)))) (rmJ (y / 16) (uN (sU (pN z)))) (rmJ (y / 256) 5) y := by unfold actP; rw [if_neg hN, if_neg hN]
    rw [aq]
    exact w_act51 C1 hx0 H9 h0 h1 (by omega) (by omega) hl hP hD hS
