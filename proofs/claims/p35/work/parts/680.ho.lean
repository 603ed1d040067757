/-! p35: holds: the debts, one holder -/
set_option maxRecDepth 20000 in
theorem w_ow {p : Program} {l : Launch} {e : Env} {s : State} {m : MethodId} {below : List Frame} {meth : Method} {c : Code} {D : va_G} {cy : Nat → ClassId} {t : FxA} {A : Nat → Prop} {Q : State → Prop} {xa sa sb tr na : Nat → Nat} {ka : Nat → Nat → Nat} {x : Int32} (C0 : LR p l s m meth c ([.ref (xa 0), .int x] : List Value).toArray cL_holds 28 wc_holds (some .boolean) D cy t A) {z : SpT} (oz : OKz z) {T : Int} (g : SG T (pN z)) {h c3 c4 c5 c6 c7 c8 c9 c10 : Int32} (hh : iv 0 4 h) : ∀ (nF : Nat) (v : Int32), 0 ≤ v.toInt → 45 - v.toInt ≤ nF → ∀ {cells slots : Nat} (hc : cells + 2 * (nF + 1) ≤ 3000) (hs : slots + 12 * (nF + 1) ≤ 18000) {H : Heap} {locs : List Loc} {ls : Array Slot} (hl : lv_has ls 28 [(13, .int v), (12, .int h), (11, .int (1 : Int32)), (10, .int c10), (9, .int c9), (8, .int c8), (7, .int c7), (6, .int c6), (5, .int c5), (4, .int c4), (3, .int c3), (2, .int (uN (sU (pN z)))), (0, .ref (xa 0)), (1, .int x)]) (hP : va_P D vwCl (wSp cy xa sa sb tr na ka z) H) (hD : va_D A (wSp cy xa sa sb tr na ka z)) (hS : va_S A s.heap H locs) (kk : ∀ (ls : Array Slot) (H : Heap) (locs : List Loc), lv_has ls 28 [(12, .int h), (11, .int (1 : Int32)), (10, .int c10), (9, .int c9), (8, .int c8), (7, .int c7), (6, .int c6), (5, .int c5), (4, .int c4), (3, .int c3), (2, .int (uN (sU (pN z)))), (0, .ref (xa 0)), (1, .int x)] → va_P D vwCl (wSp cy xa sa sb tr na ka z) H → va_D A (wSp cy xa sa sb tr na ka z) → va_S A s.heap H locs → @Wx p l e ({ frames := 10, cells := 3000, slots := 18000, locals := 300 } : Room) s m ([.ref (xa 0), .int x] : List Value).toArray below meth c H locs (cells + 2 * (nF + 1)) (slots + 12 * (nF + 1)) Q (F0 m 258 ls [])), @Wx p l e ({ frames := 10, cells := 3000, slots := 18000, locals := 300 } : Room) s m ([.ref (xa 0), .int x] : List Value).toArray below meth c H locs cells slots Q (F0 m 175 ls []) := by
  have C1 := C0
  obtain ⟨hx, hb, hr, hlocks, hts, hown, hCF, hG, hF, hA, hl0⟩ := C0
  intro nF
  induction nF with
  | zero =>
    intro v h0 h1 cells slots hc hs H locs ls hl hP hD hS kk
    refine lv_iload hx hb dL_holds_175 (lv_at hl 0 rfl) ?_
    refine lv_bipush (v := (45 : Int32)) hx hb dL_holds_177 (by decide) ?_
    refine lv_icmp_ge (tgt := 258) hx hb dL_holds_179 (by decide) (fun _ => ?_) (fun q => absurd (by rw [i32_le, show (45 : Int32).toInt = 45 by decide]; omega) q)
    have hl : lv_has ls 28 [(12, .int h), (11, .int (1 : Int32)), (10, .int c10), (9, .int c9), (8, .int c8), (7, .int c7), (6, .int c6), (5, .int c5), (4, .int c4), (3, .int c3), (2, .int (uN (sU (pN z)))), (0, .ref (xa 0)), (1, .int x)] := lv_sub hl [1, 2, 3, 4, 5, 6, 7, 8, 9, 10, 11, 12, 13] rfl
    refine W.widen (k := cells + 2 * (0 + 1)) (n := slots + 12 * (0 + 1)) (by omega) (by omega) ?_
    exact kk _ _ _ hl hP hD hS
  | succ nF ih =>
    intro v h0 h1 cells slots hc hs H locs ls hl hP hD hS kk
    refine lv_iload hx hb dL_holds_175 (lv_at hl 0 rfl) ?_
    refine lv_bipush (v := (45 : Int32)) hx hb dL_holds_177 (by decide) ?_
    refine lv_icmp_ge (tgt := 258) hx hb dL_holds_179 (by decide) (fun c1 => ?_) (fun c1 => ?_)
    · have hl : lv_has ls 28 [(12, .int h), (11, .int (1 : Int32)), (10, .int c10), (9, .int c9), (8, .int c8), (7, .int c7), (6, .int c6), (5, .int c5), (4, .int c4), (3, .int c3), (2, .int (uN (sU (pN z)))), (0, .ref (xa 0)), (1, .int x)] := lv_sub hl [1, 2, 3, 4, 5, 6, 7, 8, 9, 10, 11, 12, 13] rfl
      refine W.widen (k := cells + 2 * (nF + 1 + 1)) (n := slots + 12 * (nF + 1 + 1)) (by omega) (by omega) ?_
      exact kk _ _ _ hl hP hD hS
    refine lv_iload hx hb dL_holds_182 (lv_at hl 2 rfl) ?_
    refine lv_if_eq (tgt := 258) hx hb dL_holds_184 (by decide) (fun q => absurd q (by decide)) (fun _ => ?_)
    have c2 : v.toInt < 45 := by rw [i32_le, show (45 : Int32).toInt = 45 by decide] at c1; omega
    have v9 : iv 0 4 (v / 9) := by unfold iv; rw [i32_div h0 (show (9 : Int32).toInt = 9 by decide) (by decide)]; omega
    have v3 : iv 0 2 (rmJ (v / 3) 3) := rmJ_3 (by rw [i32_div h0 ii3 (by decide)]; omega)
    have ofa := ow_fact g hh v9 v3 (rmJ_3 h0)
    refine lv_aload_n hx hb dL_holds_187 rfl (lv_at hl 12 rfl) ?_
    refine lv_iload hx hb dL_holds_188 (lv_at hl 1 rfl) ?_
    refine lv_iload hx hb dL_holds_190 (lv_at hl 0 rfl) ?_
    refine lv_bipush (v := (9 : Int32)) hx hb dL_holds_192 (by decide) ?_
    refine lv_idiv hx hb dL_holds_194 (by decide) ?_
    refine lv_iload hx hb dL_holds_195 (lv_at hl 0 rfl) ?_
    refine lv_iconst (v := (3 : Int32)) hx hb dL_holds_197 (by decide) ?_
    refine lv_idiv hx hb dL_holds_198 (by decide) ?_
    refine lv_iconst (v := (3 : Int32)) hx hb dL_holds_199 (by decide) ?_
    refine lv_irem hx hb dL_holds_200 (by decide) ?_
    refine lv_iload hx hb dL_holds_201 (lv_at hl 0 rfl) ?_
    refine lv_iconst (v := (3 : Int32)) hx hb dL_holds_203 (by decide) ?_
    refine lv_irem hx hb dL_holds_204 (by decide) ?_
    refine hwSW (A0 := A) (As := [.ref (xa 0), .int h, .int (v / (9 : Int32)), .int (rmJ (v / (3 : Int32)) (3 : Int32)), .int (rmJ v (3 : Int32))]) (rest := []) (W1 := (wSp cy xa sa sb tr na ka z)) (W2 := (wSp cy xa sa sb tr na ka z)) (co_owed l hl0 D cy t xa sa sb tr na ka oz h (v / (9 : Int32)) (rmJ (v / (3 : Int32)) (3 : Int32)) (rmJ v (3 : Int32))) hCF gw_L_tryOwed.more rfl hq_L_tryOwed ⟨Nat.le_of_ble_eq_true rfl, Nat.le_of_ble_eq_true rfl⟩ hG hF hP hD hS hA rfl rfl hl.1 rfl (Nat.le_of_ble_eq_true rfl) dL_holds_205 ⟨by show _ ≤ 3000; omega, by show _ ≤ 18000; omega⟩ (fun H locs hP hD hS => ?_)
    by_cases cz : (kV (m_X8_owed z h (v / (9 : Int32)) (rmJ (v / (3 : Int32)) (3 : Int32)) (rmJ v (3 : Int32)))) = 0
    · refine lv_if_eq (tgt := 245) hx hb dL_holds_208 (by decide) (fun _ => ?_) (fun q => absurd cz q)
      refine lv_iconst (v := (1 : Int32)) hx hb dL_holds_245 (by decide) ?_
      refine lv_goto (tgt := 250) hx hb dL_holds_246 (by decide) ?_
      refine lv_istore (lv' := [(11, .int (1 : Int32)), (13, .int v), (12, .int h), (10, .int c10), (9, .int c9), (8, .int c8), (7, .int c7), (6, .int c6), (5, .int c5), (4, .int c4), (3, .int c3), (2, .int (uN (sU (pN z)))), (0, .ref (xa 0)), (1, .int x)]) hx hb dL_holds_250 hl (by decide) rfl (fun ls hl => ?_)
      refine lv_iinc (v := (v + (1 : Int32))) (lv' := [(13, .int (v + (1 : Int32))), (11, .int (1 : Int32)), (12, .int h), (10, .int c10), (9, .int c9), (8, .int c8), (7, .int c7), (6, .int c6), (5, .int c5), (4, .int c4), (3, .int c3), (2, .int (uN (sU (pN z)))), (0, .ref (xa 0)), (1, .int x)]) hx hb dL_holds_252 hl (k := 1) rfl rfl (by decide) rfl (fun ls hl => ?_)
      refine lv_goto (tgt := 175) hx hb dL_holds_255 (by decide) ?_
      have hl : lv_has ls 28 [(13, .int (v + (1 : Int32))), (12, .int h), (11, .int (1 : Int32)), (10, .int c10), (9, .int c9), (8, .int c8), (7, .int c7), (6, .int c6), (5, .int c5), (4, .int c4), (3, .int c3), (2, .int (uN (sU (pN z)))), (0, .ref (xa 0)), (1, .int x)] := lv_sub hl [0, 2, 1, 3, 4, 5, 6, 7, 8, 9, 10, 11, 12, 13] rfl
      refine W.widen (k := cells + 2) (n := slots + 12) (by omega) (by omega) ?_
      have e1 : (v + 1).toInt = v.toInt + 1 := by rw [i32_add (by rw [i32_1]; omega) (by rw [i32_1]; omega), i32_1]
      refine ih (v + 1) (by omega) (by omega) (by omega) (by omega) hl hP hD hS (fun ls H locs hl hP hD hS => ?_)
      refine W.widen (k := cells + 2 * (nF + 1 + 1)) (n := slots + 12 * (nF + 1 + 1)) (by omega) (by omega) ?_
      exact kk _ _ _ hl hP hD hS
    · refine lv_if_eq (tgt := 245) hx hb dL_holds_208 (by decide) (fun q => absurd q cz) (fun _ => ?_)
      obtain ⟨nh, z0⟩ := ofa.resolve_left cz
      refine lv_iload hx hb dL_holds_211 (lv_at hl 1 rfl) ?_
      refine lv_iload hx hb dL_holds_213 (lv_at hl 0 rfl) ?_
      refine lv_bipush (v := (9 : Int32)) hx hb dL_holds_215 (by decide) ?_
      refine lv_idiv hx hb dL_holds_217 (by decide) ?_
      refine lv_icmp_eq (tgt := 249) hx hb dL_holds_218 (by decide) (fun q => absurd q nh) (fun _ => ?_)
      refine lv_aload_n hx hb dL_holds_221 rfl (lv_at hl 12 rfl) ?_
      refine lv_iload hx hb dL_holds_222 (lv_at hl 0 rfl) ?_
      refine lv_bipush (v := (9 : Int32)) hx hb dL_holds_224 (by decide) ?_
      refine lv_idiv hx hb dL_holds_226 (by decide) ?_
      refine lv_iload hx hb dL_holds_227 (lv_at hl 1 rfl) ?_
      refine lv_iload hx hb dL_holds_229 (lv_at hl 0 rfl) ?_
      refine lv_iconst (v := (3 : Int32)) hx hb dL_holds_231 (by decide) ?_
      refine lv_idiv hx hb dL_holds_232 (by decide) ?_
      refine lv_iconst (v := (3 : Int32)) hx hb dL_holds_233 (by decide) ?_
      refine lv_irem hx hb dL_holds_234 (by decide) ?_
      refine lv_iload hx hb dL_holds_235 (lv_at hl 0 rfl) ?_
      refine lv_iconst (v := (3 : Int32)) hx hb dL_holds_237 (by decide) ?_
      refine lv_irem hx hb dL_holds_238 (by decide) ?_
      refine hwSW (A0 := A) (As := [.ref (xa 0), .int (v / (9 : Int32)), .int h, .int (rmJ (v / (3 : Int32)) (3 : Int32)), .int (rmJ v (3 : Int32))]) (rest := []) (W1 := (wSp cy xa sa sb tr na ka z)) (W2 := (wSp cy xa sa sb tr na ka z)) (co_owed l hl0 D cy t xa sa sb tr na ka oz (v / (9 : Int32)) h (rmJ (v / (3 : Int32)) (3 : Int32)) (rmJ v (3 : Int32))) hCF gw_L_tryOwed.more rfl hq_L_tryOwed ⟨Nat.le_of_ble_eq_true rfl, Nat.le_of_ble_eq_true rfl⟩ hG hF hP hD hS hA rfl rfl hl.1 rfl (Nat.le_of_ble_eq_true rfl) dL_holds_239 ⟨by show _ ≤ 3000; omega, by show _ ≤ 18000; omega⟩ (fun H locs hP hD hS => ?_)
      refine lv_if_ne (tgt := 249) hx hb dL_holds_242 (by decide) (fun q => absurd z0 q) (fun _ => ?_)
      refine lv_iconst (v := (1 : Int32)) hx hb dL_holds_245 (by decide) ?_
      refine lv_goto (tgt := 250) hx hb dL_holds_246 (by decide) ?_
      refine lv_istore (lv' := [(11, .int (1 : Int32)), (13, .int v), (12, .int h), (10, .int c10), (9, .int c9), (8, .int c8), (7, .int c7), (6, .int c6), (5, .int c5), (4, .int c4), (3, .int c3), (2, .int (uN (sU (pN z)))), (0, .ref (xa 0)), (1, .int x)]) hx hb dL_holds_250 hl (by decide) rfl (fun ls hl => ?_)
      refine lv_iinc (v := (v + (1 : Int32))) (lv' := [(13, .int (v + (1 : Int32))), (11, .int (1 : Int32)), (12, .int h), (10, .int c10), (9, .int c9), (8, .int c8), (7, .int c7), (6, .int c6), (5, .int c5), (4, .int c4), (3, .int c3), (2, .int (uN (sU (pN z)))), (0, .ref (xa 0)), (1, .int x)]) hx hb dL_holds_252 hl (k := 1) rfl rfl (by decide) rfl (fun ls hl => ?_)
      refine lv_goto (tgt := 175) hx hb dL_holds_255 (by decide) ?_
      have hl : lv_has ls 28 [(13, .int (v + (1 : Int32))), (12, .int h), (11, .int (1 : Int32)), (10, .int c10), (9, .int c9), (8, .int c8), (7, .int c7), (6, .int c6), (5, .int c5), (4, .int c4), (3, .int c3), (2, .int (uN (sU (pN z)))), (0, .ref (xa 0)), (1, .int x)] := lv_sub hl [0, 2, 1, 3, 4, 5, 6, 7, 8, 9, 10, 11, 12, 13] rfl
      refine W.widen (k := cells + 2) (n := slots + 12) (by omega) (by omega) ?_
      have e1 : (v + 1).toInt = v.toInt + 1 := by rw [i32_add (by rw [i32_1]; omega) (by rw [i32_1]; omega), i32_1]
      refine ih (v + 1) (by omega) (by omega) (by omega) (by omega) hl hP hD hS (fun ls H locs hl hP hD hS => ?_)
      refine W.widen (k := cells + 2 * (nF + 1 + 1)) (n := slots + 12 * (nF + 1 + 1)) (by omega) (by omega) ?_
      exact kk _ _ _ hl hP hD hS
set_option maxRecDepth 20000 in
theorem w_hh {p : Program} {l : Launch} {e : Env} {s : State} {m : MethodId} {below : List Frame} {meth : Method} {c : Code} {D : va_G} {cy : Nat → ClassId} {t : FxA} {A : Nat → Prop} {Q : State → Prop} {xa sa sb tr na : Nat → Nat} {ka : Nat → Nat → Nat} {x : Int32} (C0 : LR p l s m meth c ([.ref (xa 0), .int x] : List Value).toArray cL_holds 28 wc_holds (some .boolean) D cy t A) {z : SpT} (oz : OKz z) {T : Int} (g : SG T (pN z)) {h c3 c4 c5 c6 c7 c8 c9 c10 : Int32} (hh : iv 0 4 h) {cells slots : Nat} (hc : cells + 100 ≤ 3000) (hs : slots + 600 ≤ 18000) {H : Heap} {locs : List Loc} {ls : Array Slot} (hl : lv_has ls 28 [(12, .int h), (11, .int (1 : Int32)), (10, .int c10), (9, .int c9), (8, .int c8), (7, .int c7), (6, .int c6), (5, .int c5), (4, .int c4), (3, .int c3), (2, .int (uN (sU (pN z)))), (0, .ref (xa 0)), (1, .int x)]) (hP : va_P D vwCl (wSp cy xa sa sb tr na ka z) H) (hD : va_D A (wSp cy xa sa sb tr na ka z)) (hS : va_S A s.heap H locs) (kk : ∀ (ls : Array Slot) (H : Heap) (locs : List Loc), lv_has ls 28 [(12, .int (h + (1 : Int32))), (11, .int (1 : Int32)), (10, .int (c10 + (kV (callP z 4 h (4 : Int32) (0 : Int32))))), (9, .int (c9 + (kV (callP z 4 h (6 : Int32) (0 : Int32))))), (8, .int (c8 + (kV (callP z 4 h (5 : Int32) (0 : Int32))))), (7, .int (c7 + (kV (callP z 20 h (rmJ x (100 : Int32)) (0 : Int32))))), (6, .int (c6 + (kV (callP z 4 h (3 : Int32) (0 : Int32))))), (5, .int (c5 + (kV (callP z 4 h (2 : Int32) (0 : Int32))))), (4, .int (c4 + (kV (callP z 4 h (1 : Int32) (0 : Int32))))), (3, .int (c3 + (kV (callP z 4 h (0 : Int32) (0 : Int32))))), (2, .int (uN (sU (pN z)))), (0, .ref (xa 0)), (1, .int x)] → va_P D vwCl (wSp cy xa sa sb tr na ka z) H → va_D A (wSp cy xa sa sb tr na ka z) → va_S A s.heap H locs → @Wx p l e ({ frames := 10, cells := 3000, slots := 18000, locals := 300 } : Room) s m ([.ref (xa 0), .int x] : List Value).toArray below meth c H locs (cells + 100) (slots + 600) Q (F0 m 46 ls [])) : @Wx p l e ({ frames := 10, cells := 3000, slots := 18000, locals := 300 } : Room) s m ([.ref (xa 0), .int x] : List Value).toArray below meth c H locs cells slots Q (F0 m 46 ls []) := by
  have C1 := C0
  obtain ⟨hx, hb, hr, hlocks, hts, hown, hCF, hG, hF, hA, hl0⟩ := C0
  refine lv_iload hx hb dL_holds_46 (lv_at hl 0 rfl) ?_
  refine lv_iconst (v := (5 : Int32)) hx hb dL_holds_48 (by decide) ?_
  refine lv_icmp_ge (tgt := 264) hx hb dL_holds_49 (by decide) (fun q => absurd q (by rw [i32_le, ii5]; have := hh.2; omega)) (fun _ => ?_)
  refine lv_iload hx hb dL_holds_52 (lv_at hl 1 rfl) ?_
  refine lv_if_eq (tgt := 264) hx hb dL_holds_54 (by decide) (fun q => absurd q (by decide)) (fun _ => ?_)
  refine lv_iload_n hx hb dL_holds_57 rfl (lv_at hl 9 rfl) ?_
  refine lv_aload_n hx hb dL_holds_58 rfl (lv_at hl 11 rfl) ?_
  refine lv_iconst (v := (4 : Int32)) hx hb dL_holds_59 (by decide) ?_
  refine lv_iload hx hb dL_holds_60 (lv_at hl 0 rfl) ?_
  refine lv_iconst (v := (0 : Int32)) hx hb dL_holds_62 (by decide) ?_
  refine lv_iconst (v := (0 : Int32)) hx hb dL_holds_63 (by decide) ?_
  refine hwS (A0 := A) (As := [.ref (xa 0), .int (4 : Int32), .int h, .int (0 : Int32), .int (0 : Int32)]) (rest := [.int c3]) (W1 := (wSp cy xa sa sb tr na ka z)) (W2 := (wSp cy xa sa sb tr na ka z)) (cq_4 l hl0 D cy t xa sa sb tr na ka oz h (0 : Int32) (0 : Int32)) hCF gw_L_call.more rfl hq_L_call ⟨Nat.le_of_ble_eq_true rfl, Nat.le_of_ble_eq_true rfl⟩ hG hF hP hD hS hA rfl rfl hl.1 rfl (Nat.le_of_ble_eq_true rfl) dL_holds_64 ⟨by show _ ≤ 3000; omega, by show _ ≤ 18000; omega⟩ (fun H locs hP hD hS => ?_)
  refine lv_iadd hx hb dL_holds_67 ?_
  refine lv_istore_n (lv' := [(3, .int (c3 + (kV (callP z 4 h (0 : Int32) (0 : Int32))))), (12, .int h), (11, .int (1 : Int32)), (10, .int c10), (9, .int c9), (8, .int c8), (7, .int c7), (6, .int c6), (5, .int c5), (4, .int c4), (2, .int (uN (sU (pN z)))), (0, .ref (xa 0)), (1, .int x)]) hx hb dL_holds_68 rfl hl (by decide) rfl (fun ls hl => ?_)
  refine lv_iload hx hb dL_holds_69 (lv_at hl 9 rfl) ?_
  refine lv_aload_n hx hb dL_holds_71 rfl (lv_at hl 11 rfl) ?_
  refine lv_iconst (v := (4 : Int32)) hx hb dL_holds_72 (by decide) ?_
  refine lv_iload hx hb dL_holds_73 (lv_at hl 1 rfl) ?_
  refine lv_iconst (v := (1 : Int32)) hx hb dL_holds_75 (by decide) ?_
  refine lv_iconst (v := (0 : Int32)) hx hb dL_holds_76 (by decide) ?_
  refine hwS (A0 := A) (As := [.ref (xa 0), .int (4 : Int32), .int h, .int (1 : Int32), .int (0 : Int32)]) (rest := [.int c4]) (W1 := (wSp cy xa sa sb tr na ka z)) (W2 := (wSp cy xa sa sb tr na ka z)) (cq_4 l hl0 D cy t xa sa sb tr na ka oz h (1 : Int32) (0 : Int32)) hCF gw_L_call.more rfl hq_L_call ⟨Nat.le_of_ble_eq_true rfl, Nat.le_of_ble_eq_true rfl⟩ hG hF hP hD hS hA rfl rfl hl.1 rfl (Nat.le_of_ble_eq_true rfl) dL_holds_77 ⟨by show _ ≤ 3000; omega, by show _ ≤ 18000; omega⟩ (fun H locs hP hD hS => ?_)
  refine lv_iadd hx hb dL_holds_80 ?_
  refine lv_istore (lv' := [(4, .int (c4 + (kV (callP z 4 h (1 : Int32) (0 : Int32))))), (3, .int (c3 + (kV (callP z 4 h (0 : Int32) (0 : Int32))))), (12, .int h), (11, .int (1 : Int32)), (10, .int c10), (9, .int c9), (8, .int c8), (7, .int c7), (6, .int c6), (5, .int c5), (2, .int (uN (sU (pN z)))), (0, .ref (xa 0)), (1, .int x)]) hx hb dL_holds_81 hl (by decide) rfl (fun ls hl => ?_)
  refine lv_iload hx hb dL_holds_83 (lv_at hl 9 rfl) ?_
  refine lv_aload_n hx hb dL_holds_85 rfl (lv_at hl 11 rfl) ?_
  refine lv_iconst (v := (4 : Int32)) hx hb dL_holds_86 (by decide) ?_
  refine lv_iload hx hb dL_holds_87 (lv_at hl 2 rfl) ?_
  refine lv_iconst (v := (2 : Int32)) hx hb dL_holds_89 (by decide) ?_
  refine lv_iconst (v := (0 : Int32)) hx hb dL_holds_90 (by decide) ?_
  refine hwS (A0 := A) (As := [.ref (xa 0), .int (4 : Int32), .int h, .int (2 : Int32), .int (0 : Int32)]) (rest := [.int c5]) (W1 := (wSp cy xa sa sb tr na ka z)) (W2 := (wSp cy xa sa sb tr na ka z)) (cq_4 l hl0 D cy t xa sa sb tr na ka oz h (2 : Int32) (0 : Int32)) hCF gw_L_call.more rfl hq_L_call ⟨Nat.le_of_ble_eq_true rfl, Nat.le_of_ble_eq_true rfl⟩ hG hF hP hD hS hA rfl rfl hl.1 rfl (Nat.le_of_ble_eq_true rfl) dL_holds_91 ⟨by show _ ≤ 3000; omega, by show _ ≤ 18000; omega⟩ (fun H locs hP hD hS => ?_)
  refine lv_iadd hx hb dL_holds_94 ?_
  refine lv_istore (lv' := [(5, .int (c5 + (kV (callP z 4 h (2 : Int32) (0 : Int32))))), (4, .int (c4 + (kV (callP z 4 h (1 : Int32) (0 : Int32))))), (3, .int (c3 + (kV (callP z 4 h (0 : Int32) (0 : Int32))))), (12, .int h), (11, .int (1 : Int32)), (10, .int c10), (9, .int c9), (8, .int c8), (7, .int c7), (6, .int c6), (2, .int (uN (sU (pN z)))), (0, .ref (xa 0)), (1, .int x)]) hx hb dL_holds_95 hl (by decide) rfl (fun ls hl => ?_)
  refine lv_iload hx hb dL_holds_97 (lv_at hl 9 rfl) ?_
  refine lv_aload_n hx hb dL_holds_99 rfl (lv_at hl 11 rfl) ?_
  refine lv_iconst (v := (4 : Int32)) hx hb dL_holds_100 (by decide) ?_
  refine lv_iload hx hb dL_holds_101 (lv_at hl 3 rfl) ?_
  refine lv_iconst (v := (3 : Int32)) hx hb dL_holds_103 (by decide) ?_
  refine lv_iconst (v := (0 : Int32)) hx hb dL_holds_104 (by decide) ?_
  refine hwS (A0 := A) (As := [.ref (xa 0), .int (4 : Int32), .int h, .int (3 : Int32), .int (0 : Int32)]) (rest := [.int c6]) (W1 := (wSp cy xa sa sb tr na ka z)) (W2 := (wSp cy xa sa sb tr na ka z)) (cq_4 l hl0 D cy t xa sa sb tr na ka oz h (3 : Int32) (0 : Int32)) hCF gw_L_call.more rfl hq_L_call ⟨Nat.le_of_ble_eq_true rfl, Nat.le_of_ble_eq_true rfl⟩ hG hF hP hD hS hA rfl rfl hl.1 rfl (Nat.le_of_ble_eq_true rfl) dL_holds_105 ⟨by show _ ≤ 3000; omega, by show _ ≤ 18000; omega⟩ (fun H locs hP hD hS => ?_)
  refine lv_iadd hx hb dL_holds_108 ?_
  refine lv_istore (lv' := [(6, .int (c6 + (kV (callP z 4 h (3 : Int32) (0 : Int32))))), (5, .int (c5 + (kV (callP z 4 h (2 : Int32) (0 : Int32))))), (4, .int (c4 + (kV (callP z 4 h (1 : Int32) (0 : Int32))))), (3, .int (c3 + (kV (callP z 4 h (0 : Int32) (0 : Int32))))), (12, .int h), (11, .int (1 : Int32)), (10, .int c10), (9, .int c9), (8, .int c8), (7, .int c7), (2, .int (uN (sU (pN z)))), (0, .ref (xa 0)), (1, .int x)]) hx hb dL_holds_109 hl (by decide) rfl (fun ls hl => ?_)
  refine lv_iload hx hb dL_holds_111 (lv_at hl 6 rfl) ?_
  refine lv_aload_n hx hb dL_holds_113 rfl (lv_at hl 11 rfl) ?_
  refine lv_iconst (v := (4 : Int32)) hx hb dL_holds_114 (by decide) ?_
  refine lv_iload hx hb dL_holds_115 (lv_at hl 4 rfl) ?_
  refine lv_iconst (v := (4 : Int32)) hx hb dL_holds_117 (by decide) ?_
  refine lv_iconst (v := (0 : Int32)) hx hb dL_holds_118 (by decide) ?_
  refine hwS (A0 := A) (As := [.ref (xa 0), .int (4 : Int32), .int h, .int (4 : Int32), .int (0 : Int32)]) (rest := [.int c10]) (W1 := (wSp cy xa sa sb tr na ka z)) (W2 := (wSp cy xa sa sb tr na ka z)) (cq_4 l hl0 D cy t xa sa sb tr na ka oz h (4 : Int32) (0 : Int32)) hCF gw_L_call.more rfl hq_L_call ⟨Nat.le_of_ble_eq_true rfl, Nat.le_of_ble_eq_true rfl⟩ hG hF hP hD hS hA rfl rfl hl.1 rfl (Nat.le_of_ble_eq_true rfl) dL_holds_119 ⟨by show _ ≤ 3000; omega, by show _ ≤ 18000; omega⟩ (fun H locs hP hD hS => ?_)
  refine lv_iadd hx hb dL_holds_122 ?_
  refine lv_istore (lv' := [(10, .int (c10 + (kV (callP z 4 h (4 : Int32) (0 : Int32))))), (6, .int (c6 + (kV (callP z 4 h (3 : Int32) (0 : Int32))))), (5, .int (c5 + (kV (callP z 4 h (2 : Int32) (0 : Int32))))), (4, .int (c4 + (kV (callP z 4 h (1 : Int32) (0 : Int32))))), (3, .int (c3 + (kV (callP z 4 h (0 : Int32) (0 : Int32))))), (12, .int h), (11, .int (1 : Int32)), (9, .int c9), (8, .int c8), (7, .int c7), (2, .int (uN (sU (pN z)))), (0, .ref (xa 0)), (1, .int x)]) hx hb dL_holds_123 hl (by decide) rfl (fun ls hl => ?_)
  refine lv_iload hx hb dL_holds_125 (lv_at hl 8 rfl) ?_
  refine lv_aload_n hx hb dL_holds_127 rfl (lv_at hl 11 rfl) ?_
  refine lv_iconst (v := (4 : Int32)) hx hb dL_holds_128 (by decide) ?_
  refine lv_iload hx hb dL_holds_129 (lv_at hl 5 rfl) ?_
  refine lv_iconst (v := (5 : Int32)) hx hb dL_holds_131 (by decide) ?_
  refine lv_iconst (v := (0 : Int32)) hx hb dL_holds_132 (by decide) ?_
  refine hwS (A0 := A) (As := [.ref (xa 0), .int (4 : Int32), .int h, .int (5 : Int32), .int (0 : Int32)]) (rest := [.int c8]) (W1 := (wSp cy xa sa sb tr na ka z)) (W2 := (wSp cy xa sa sb tr na ka z)) (cq_4 l hl0 D cy t xa sa sb tr na ka oz h (5 : Int32) (0 : Int32)) hCF gw_L_call.more rfl hq_L_call ⟨Nat.le_of_ble_eq_true rfl, Nat.le_of_ble_eq_true rfl⟩ hG hF hP hD hS hA rfl rfl hl.1 rfl (Nat.le_of_ble_eq_true rfl) dL_holds_133 ⟨by show _ ≤ 3000; omega, by show _ ≤ 18000; omega⟩ (fun H locs hP hD hS => ?_)
  refine lv_iadd hx hb dL_holds_136 ?_
  refine lv_istore (lv' := [(8, .int (c8 + (kV (callP z 4 h (5 : Int32) (0 : Int32))))), (10, .int (c10 + (kV (callP z 4 h (4 : Int32) (0 : Int32))))), (6, .int (c6 + (kV (callP z 4 h (3 : Int32) (0 : Int32))))), (5, .int (c5 + (kV (callP z 4 h (2 : Int32) (0 : Int32))))), (4, .int (c4 + (kV (callP z 4 h (1 : Int32) (0 : Int32))))), (3, .int (c3 + (kV (callP z 4 h (0 : Int32) (0 : Int32))))), (12, .int h), (11, .int (1 : Int32)), (9, .int c9), (7, .int c7), (2, .int (uN (sU (pN z)))), (0, .ref (xa 0)), (1, .int x)]) hx hb dL_holds_137 hl (by decide) rfl (fun ls hl => ?_)
  refine lv_iload hx hb dL_holds_139 (lv_at hl 8 rfl) ?_
  refine lv_aload_n hx hb dL_holds_141 rfl (lv_at hl 11 rfl) ?_
  refine lv_iconst (v := (4 : Int32)) hx hb dL_holds_142 (by decide) ?_
  refine lv_iload hx hb dL_holds_143 (lv_at hl 6 rfl) ?_
  refine lv_bipush (v := (6 : Int32)) hx hb dL_holds_145 (by decide) ?_
  refine lv_iconst (v := (0 : Int32)) hx hb dL_holds_147 (by decide) ?_
  refine hwS (A0 := A) (As := [.ref (xa 0), .int (4 : Int32), .int h, .int (6 : Int32), .int (0 : Int32)]) (rest := [.int c9]) (W1 := (wSp cy xa sa sb tr na ka z)) (W2 := (wSp cy xa sa sb tr na ka z)) (cq_4 l hl0 D cy t xa sa sb tr na ka oz h (6 : Int32) (0 : Int32)) hCF gw_L_call.more rfl hq_L_call ⟨Nat.le_of_ble_eq_true rfl, Nat.le_of_ble_eq_true rfl⟩ hG hF hP hD hS hA rfl rfl hl.1 rfl (Nat.le_of_ble_eq_true rfl) dL_holds_148 ⟨by show _ ≤ 3000; omega, by show _ ≤ 18000; omega⟩ (fun H locs hP hD hS => ?_)
  refine lv_iadd hx hb dL_holds_151 ?_
  refine lv_istore (lv' := [(9, .int (c9 + (kV (callP z 4 h (6 : Int32) (0 : Int32))))), (8, .int (c8 + (kV (callP z 4 h (5 : Int32) (0 : Int32))))), (10, .int (c10 + (kV (callP z 4 h (4 : Int32) (0 : Int32))))), (6, .int (c6 + (kV (callP z 4 h (3 : Int32) (0 : Int32))))), (5, .int (c5 + (kV (callP z 4 h (2 : Int32) (0 : Int32))))), (4, .int (c4 + (kV (callP z 4 h (1 : Int32) (0 : Int32))))), (3, .int (c3 + (kV (callP z 4 h (0 : Int32) (0 : Int32))))), (12, .int h), (11, .int (1 : Int32)), (7, .int c7), (2, .int (uN (sU (pN z)))), (0, .ref (xa 0)), (1, .int x)]) hx hb dL_holds_152 hl (by decide) rfl (fun ls hl => ?_)
  refine lv_iload hx hb dL_holds_154 (lv_at hl 9 rfl) ?_
  refine lv_aload_n hx hb dL_holds_156 rfl (lv_at hl 11 rfl) ?_
  refine lv_bipush (v := (20 : Int32)) hx hb dL_holds_157 (by decide) ?_
  refine lv_iload hx hb dL_holds_159 (lv_at hl 7 rfl) ?_
  refine lv_iload_n hx hb dL_holds_161 rfl (lv_at hl 12 rfl) ?_
  refine lv_bipush (v := (100 : Int32)) hx hb dL_holds_162 (by decide) ?_
  refine lv_irem hx hb dL_holds_164 (by decide) ?_
  refine lv_iconst (v := (0 : Int32)) hx hb dL_holds_165 (by decide) ?_
  refine hwS (A0 := A) (As := [.ref (xa 0), .int (20 : Int32), .int h, .int (rmJ x (100 : Int32)), .int (0 : Int32)]) (rest := [.int c7]) (W1 := (wSp cy xa sa sb tr na ka z)) (W2 := (wSp cy xa sa sb tr na ka z)) (cq_20 l hl0 D cy t xa sa sb tr na ka oz h (rmJ x (100 : Int32)) (0 : Int32)) hCF gw_L_call.more rfl hq_L_call ⟨Nat.le_of_ble_eq_true rfl, Nat.le_of_ble_eq_true rfl⟩ hG hF hP hD hS hA rfl rfl hl.1 rfl (Nat.le_of_ble_eq_true rfl) dL_holds_166 ⟨by show _ ≤ 3000; omega, by show _ ≤ 18000; omega⟩ (fun H locs hP hD hS => ?_)
  refine lv_iadd hx hb dL_holds_169 ?_
  refine lv_istore (lv' := [(7, .int (c7 + (kV (callP z 20 h (rmJ x (100 : Int32)) (0 : Int32))))), (9, .int (c9 + (kV (callP z 4 h (6 : Int32) (0 : Int32))))), (8, .int (c8 + (kV (callP z 4 h (5 : Int32) (0 : Int32))))), (10, .int (c10 + (kV (callP z 4 h (4 : Int32) (0 : Int32))))), (6, .int (c6 + (kV (callP z 4 h (3 : Int32) (0 : Int32))))), (5, .int (c5 + (kV (callP z 4 h (2 : Int32) (0 : Int32))))), (4, .int (c4 + (kV (callP z 4 h (1 : Int32) (0 : Int32))))), (3, .int (c3 + (kV (callP z 4 h (0 : Int32) (0 : Int32))))), (12, .int h), (11, .int (1 : Int32)), (2, .int (uN (sU (pN z)))), (0, .ref (xa 0)), (1, .int x)]) hx hb dL_holds_170 hl (by decide) rfl (fun ls hl => ?_)
  refine lv_iconst (v := (0 : Int32)) hx hb dL_holds_172 (by decide) ?_
  refine lv_istore (lv' := [(13, .int (0 : Int32)), (7, .int (c7 + (kV (callP z 20 h (rmJ x (100 : Int32)) (0 : Int32))))), (9, .int (c9 + (kV (callP z 4 h (6 : Int32) (0 : Int32))))), (8, .int (c8 + (kV (callP z 4 h (5 : Int32) (0 : Int32))))), (10, .int (c10 + (kV (callP z 4 h (4 : Int32) (0 : Int32))))), (6, .int (c6 + (kV (callP z 4 h (3 : Int32) (0 : Int32))))), (5, .int (c5 + (kV (callP z 4 h (2 : Int32) (0 : Int32))))), (4, .int (c4 + (kV (callP z 4 h (1 : Int32) (0 : Int32))))), (3, .int (c3 + (kV (callP z 4 h (0 : Int32) (0 : Int32))))), (12, .int h), (11, .int (1 : Int32)), (2, .int (uN (sU (pN z)))), (0, .ref (xa 0)), (1, .int x)]) hx hb dL_holds_173 hl (by decide) rfl (fun ls hl => ?_)
  have hl : lv_has ls 28 [(13, .int (0 : Int32)), (12, .int h), (11, .int (1 : Int32)), (10, .int (c10 + (kV (callP z 4 h (4 : Int32) (0 : Int32))))), (9, .int (c9 + (kV (callP z 4 h (6 : Int32) (0 : Int32))))), (8, .int (c8 + (kV (callP z 4 h (5 : Int32) (0 : Int32))))), (7, .int (c7 + (kV (callP z 20 h (rmJ x (100 : Int32)) (0 : Int32))))), (6, .int (c6 + (kV (callP z 4 h (3 : Int32) (0 : Int32))))), (5, .int (c5 + (kV (callP z 4 h (2 : Int32) (0 : Int32))))), (4, .int (c4 + (kV (callP z 4 h (1 : Int32) (0 : Int32))))), (3, .int (c3 + (kV (callP z 4 h (0 : Int32) (0 : Int32))))), (2, .int (uN (sU (pN z)))), (0, .ref (xa 0)), (1, .int x)] := lv_sub hl [0, 9, 10, 4, 2, 3, 1, 5, 6, 7, 8, 11, 12, 13] rfl
  refine w_ow C1 oz g hh 45 0 (by decide) (by decide) (by omega) (by omega) hl hP hD hS (fun ls H locs hl hP hD hS => ?_)
  refine lv_iinc (v := (h + (1 : Int32))) (lv' := [(12, .int (h + (1 : Int32))), (11, .int (1 : Int32)), (10, .int (c10 + (kV (callP z 4 h (4 : Int32) (0 : Int32))))), (9, .int (c9 + (kV (callP z 4 h (6 : Int32) (0 : Int32))))), (8, .int (c8 + (kV (callP z 4 h (5 : Int32) (0 : Int32))))), (7, .int (c7 + (kV (callP z 20 h (rmJ x (100 : Int32)) (0 : Int32))))), (6, .int (c6 + (kV (callP z 4 h (3 : Int32) (0 : Int32))))), (5, .int (c5 + (kV (callP z 4 h (2 : Int32) (0 : Int32))))), (4, .int (c4 + (kV (callP z 4 h (1 : Int32) (0 : Int32))))), (3, .int (c3 + (kV (callP z 4 h (0 : Int32) (0 : Int32))))), (2, .int (uN (sU (pN z)))), (0, .ref (xa 0)), (1, .int x)]) hx hb dL_holds_258 hl (k := 0) rfl rfl (by decide) rfl (fun ls hl => ?_)
  refine lv_goto (tgt := 46) hx hb dL_holds_261 (by decide) ?_
  have hl : lv_has ls 28 [(12, .int (h + (1 : Int32))), (11, .int (1 : Int32)), (10, .int (c10 + (kV (callP z 4 h (4 : Int32) (0 : Int32))))), (9, .int (c9 + (kV (callP z 4 h (6 : Int32) (0 : Int32))))), (8, .int (c8 + (kV (callP z 4 h (5 : Int32) (0 : Int32))))), (7, .int (c7 + (kV (callP z 20 h (rmJ x (100 : Int32)) (0 : Int32))))), (6, .int (c6 + (kV (callP z 4 h (3 : Int32) (0 : Int32))))), (5, .int (c5 + (kV (callP z 4 h (2 : Int32) (0 : Int32))))), (4, .int (c4 + (kV (callP z 4 h (1 : Int32) (0 : Int32))))), (3, .int (c3 + (kV (callP z 4 h (0 : Int32) (0 : Int32))))), (2, .int (uN (sU (pN z)))), (0, .ref (xa 0)), (1, .int x)] := lv_sub hl [0, 1, 2, 3, 4, 5, 6, 7, 8, 9, 10, 11, 12] rfl
  refine W.widen (k := cells + 100) (n := slots + 600) (by omega) (by omega) ?_
  exact kk _ _ _ hl hP hD hS
