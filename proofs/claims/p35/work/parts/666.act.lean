/-! p35: act, case by case -/
set_option maxRecDepth 20000 in
theorem w_act0 {p : Program} {l : Launch} {e : Env} {s : State} {m : MethodId} {below : List Frame} {meth : Method} {c : Code} {D : va_G} {cy : Nat → ClassId} {t : FxA} {A : Nat → Prop} {xa sa sb tr na : Nat → Nat} {ka : Nat → Nat → Nat} {z : SpT} {x y : Int32} (C0 : LR p l s m meth c ([.ref (xa 0), .int x, .int y] : List Value).toArray cL_act 7 wc_act (some .int) D cy t A) {u9 v9 h9 : Int32} (oz : OKz z) {cells slots : Nat} (hc : cells + 7 ≤ 20) (hs : slots + 42 ≤ 120) {H : Heap} {locs : List Loc} {ls : Array Slot} (hl : lv_has ls 7 [(6, .int h9), (5, .int v9), (4, .int u9), (3, .int (uN (sU (pN z)))), (0, .ref (xa 0)), (1, .int x), (2, .int y)]) (hP : va_P D vwCl (wSp cy xa sa sb tr na ka z) H) (hD : va_D A (wSp cy xa sa sb tr na ka z)) (hS : va_S A s.heap H locs) : @Wx p l e ({ frames := 10, cells := 20, slots := 120, locals := 300 } : Room) s m ([.ref (xa 0), .int x, .int y] : List Value).toArray below meth c H locs cells slots (MQ below (va_Qi (fun r (_ : Unit) => r = (actQ z 0 u9 v9 h9 y).1) (fun _ t => va_P D vwCl (wSp cy xa sa sb tr na ka (actQ z 0 u9 v9 h9 y).2) t.heap) A) ([.ref (xa 0), .int x, .int y] : List Value).toArray s 20 120 A) (F0 m 140 ls []) := by
  obtain ⟨hx, hb, hr, hlocks, hts, hown, hCF, hG, hF, hA, hl0⟩ := C0
  refine lv_iload_n hx hb dL_act_140 rfl (lv_at hl 3 rfl) ?_
  refine lv_bipush (v := (11 : Int32)) hx hb dL_act_141 (by decide) ?_
  refine lv_icmp_le (tgt := 163) hx hb dL_act_143 (by decide) (fun c1 => ?_) (fun c1 => ?_)
  · refine lv_aload_n hx hb dL_act_163 rfl (lv_at hl 4 rfl) ?_
    refine lv_bipush (v := (7 : Int32)) hx hb dL_act_164 (by decide) ?_
    refine lv_iload_n hx hb dL_act_166 rfl (lv_at hl 6 rfl) ?_
    refine lv_iconst (v := (3 : Int32)) hx hb dL_act_167 (by decide) ?_
    refine lv_irem hx hb dL_act_168 (by decide) ?_
    refine lv_iload hx hb dL_act_169 (lv_at hl 0 rfl) ?_
    refine lv_iload_n hx hb dL_act_171 rfl (lv_at hl 6 rfl) ?_
    refine lv_bipush (v := (8 : Int32)) hx hb dL_act_172 (by decide) ?_
    refine lv_idiv hx hb dL_act_174 (by decide) ?_
    refine lv_iconst (v := (3 : Int32)) hx hb dL_act_175 (by decide) ?_
    refine lv_irem hx hb dL_act_176 (by decide) ?_
    refine lv_if_ne (tgt := 185) hx hb dL_act_177 (by decide) (fun c2 => ?_) (fun c2 => ?_)
    · have c2 : ¬ rmJ (y / 8) 3 = 0 := c2
      have aq : actQ z 0 u9 v9 h9 y = rV (callP z 7 (rmJ y (3 : Int32)) h9 (rmJ (y / (32 : Int32)) (8 : Int32))) := by
        show (if 11 < (uN (sU (pN z))) then _ else if (rmJ (y / (8 : Int32)) (3 : Int32)) = 0 then _ else _) = _
        rw [if_neg (by rw [i32_lt]; rw [i32_le] at c1; omega), if_neg c2]
      refine lv_iload_n hx hb dL_act_185 rfl (lv_at hl 6 rfl) ?_
      refine lv_bipush (v := (32 : Int32)) hx hb dL_act_186 (by decide) ?_
      refine lv_idiv hx hb dL_act_188 (by decide) ?_
      refine lv_bipush (v := (8 : Int32)) hx hb dL_act_189 (by decide) ?_
      refine lv_irem hx hb dL_act_191 (by decide) ?_
      refine hwS (A0 := A) (As := [.ref (xa 0), .int (7 : Int32), .int (rmJ y (3 : Int32)), .int h9, .int (rmJ (y / (32 : Int32)) (8 : Int32))]) (rest := []) (W1 := (wSp cy xa sa sb tr na ka z)) (W2 := (wSp cy xa sa sb tr na ka (callP z 7 (rmJ y (3 : Int32)) h9 (rmJ (y / (32 : Int32)) (8 : Int32))).2.2)) (c_L_call_7 l hl0 D cy t xa sa sb tr na ka oz (rmJ y (3 : Int32)) h9 (rmJ (y / (32 : Int32)) (8 : Int32))) hCF gw_L_call.more rfl hq_L_call ⟨Nat.le_of_ble_eq_true rfl, Nat.le_of_ble_eq_true rfl⟩ hG hF hP hD hS hA h_Sp rfl hl.1 rfl (Nat.le_of_ble_eq_true rfl) dL_act_192 ⟨by show _ ≤ 20; omega, by show _ ≤ 120; omega⟩ (fun H locs hP hD hS => ?_)
      exact hw_iret hx hb hr hlocks hP hS (by omega) (by omega) dL_act_195 (by rw [aq] <;> rfl) (by rw [aq] <;> rfl)
    · have c2 : rmJ (y / 8) 3 = 0 := c2
      have aq : actQ z 0 u9 v9 h9 y = rV (callP z 7 (rmJ y (3 : Int32)) h9 (7 : Int32)) := by
        show (if 11 < (uN (sU (pN z))) then _ else if (rmJ (y / (8 : Int32)) (3 : Int32)) = 0 then _ else _) = _
        rw [if_neg (by rw [i32_lt]; rw [i32_le] at c1; omega), if_pos c2]
      refine lv_bipush (v := (7 : Int32)) hx hb dL_act_180 (by decide) ?_
      refine lv_goto (tgt := 192) hx hb dL_act_182 (by decide) ?_
      refine hwS (A0 := A) (As := [.ref (xa 0), .int (7 : Int32), .int (rmJ y (3 : Int32)), .int h9, .int (7 : Int32)]) (rest := []) (W1 := (wSp cy xa sa sb tr na ka z)) (W2 := (wSp cy xa sa sb tr na ka (callP z 7 (rmJ y (3 : Int32)) h9 (7 : Int32)).2.2)) (c_L_call_7 l hl0 D cy t xa sa sb tr na ka oz (rmJ y (3 : Int32)) h9 (7 : Int32)) hCF gw_L_call.more rfl hq_L_call ⟨Nat.le_of_ble_eq_true rfl, Nat.le_of_ble_eq_true rfl⟩ hG hF hP hD hS hA h_Sp rfl hl.1 rfl (Nat.le_of_ble_eq_true rfl) dL_act_192 ⟨by show _ ≤ 20; omega, by show _ ≤ 120; omega⟩ (fun H locs hP hD hS => ?_)
      exact hw_iret hx hb hr hlocks hP hS (by omega) (by omega) dL_act_195 (by rw [aq] <;> rfl) (by rw [aq] <;> rfl)
  · have aq : actQ z 0 u9 v9 h9 y = rV (callP z 15 ((1 : Int32) + (rmJ y (9 : Int32))) (0 : Int32) (0 : Int32)) := by
      show (if 11 < (uN (sU (pN z))) then _ else _) = _
      rw [if_pos (by rw [i32_lt]; rw [i32_le] at c1; omega)]
    refine lv_aload_n hx hb dL_act_146 rfl (lv_at hl 4 rfl) ?_
    refine lv_bipush (v := (15 : Int32)) hx hb dL_act_147 (by decide) ?_
    refine lv_iconst (v := (1 : Int32)) hx hb dL_act_149 (by decide) ?_
    refine lv_iload_n hx hb dL_act_150 rfl (lv_at hl 6 rfl) ?_
    refine lv_bipush (v := (9 : Int32)) hx hb dL_act_151 (by decide) ?_
    refine lv_irem hx hb dL_act_153 (by decide) ?_
    refine lv_iadd hx hb dL_act_154 ?_
    refine lv_iconst (v := (0 : Int32)) hx hb dL_act_155 (by decide) ?_
    refine lv_iconst (v := (0 : Int32)) hx hb dL_act_156 (by decide) ?_
    refine hwS (A0 := A) (As := [.ref (xa 0), .int (15 : Int32), .int ((1 : Int32) + (rmJ y (9 : Int32))), .int (0 : Int32), .int (0 : Int32)]) (rest := []) (W1 := (wSp cy xa sa sb tr na ka z)) (W2 := (wSp cy xa sa sb tr na ka (callP z 15 ((1 : Int32) + (rmJ y (9 : Int32))) (0 : Int32) (0 : Int32)).2.2)) (c_L_call_15 l hl0 D cy t xa sa sb tr na ka oz ((1 : Int32) + (rmJ y (9 : Int32))) (0 : Int32) (0 : Int32)) hCF gw_L_call.more rfl hq_L_call ⟨Nat.le_of_ble_eq_true rfl, Nat.le_of_ble_eq_true rfl⟩ hG hF hP hD hS hA h_Sp rfl hl.1 rfl (Nat.le_of_ble_eq_true rfl) dL_act_157 ⟨by show _ ≤ 20; omega, by show _ ≤ 120; omega⟩ (fun H locs hP hD hS => ?_)
    refine lv_goto (tgt := 195) hx hb dL_act_160 (by decide) ?_
    exact hw_iret hx hb hr hlocks hP hS (by omega) (by omega) dL_act_195 (by rw [aq] <;> rfl) (by rw [aq] <;> rfl)
set_option maxRecDepth 20000 in
theorem w_act3 {p : Program} {l : Launch} {e : Env} {s : State} {m : MethodId} {below : List Frame} {meth : Method} {c : Code} {D : va_G} {cy : Nat → ClassId} {t : FxA} {A : Nat → Prop} {xa sa sb tr na : Nat → Nat} {ka : Nat → Nat → Nat} {z : SpT} {x y : Int32} (C0 : LR p l s m meth c ([.ref (xa 0), .int x, .int y] : List Value).toArray cL_act 7 wc_act (some .int) D cy t A) {u9 v9 h9 : Int32} (oz : OKz z) {cells slots : Nat} (hc : cells + 7 ≤ 20) (hs : slots + 42 ≤ 120) {H : Heap} {locs : List Loc} {ls : Array Slot} (hl : lv_has ls 7 [(6, .int h9), (5, .int v9), (4, .int u9), (3, .int (uN (sU (pN z)))), (0, .ref (xa 0)), (1, .int x), (2, .int y)]) (hP : va_P D vwCl (wSp cy xa sa sb tr na ka z) H) (hD : va_D A (wSp cy xa sa sb tr na ka z)) (hS : va_S A s.heap H locs) : @Wx p l e ({ frames := 10, cells := 20, slots := 120, locals := 300 } : Room) s m ([.ref (xa 0), .int x, .int y] : List Value).toArray below meth c H locs cells slots (MQ below (va_Qi (fun r (_ : Unit) => r = (actQ z 3 u9 v9 h9 y).1) (fun _ t => va_P D vwCl (wSp cy xa sa sb tr na ka (actQ z 3 u9 v9 h9 y).2) t.heap) A) ([.ref (xa 0), .int x, .int y] : List Value).toArray s 20 120 A) (F0 m 196 ls []) := by
  obtain ⟨hx, hb, hr, hlocks, hts, hown, hCF, hG, hF, hA, hl0⟩ := C0
  refine lv_aload_n hx hb dL_act_196 rfl (lv_at hl 4 rfl) ?_
  refine lv_bipush (v := (8 : Int32)) hx hb dL_act_197 (by decide) ?_
  refine lv_iload hx hb dL_act_199 (lv_at hl 2 rfl) ?_
  refine lv_iload hx hb dL_act_201 (lv_at hl 0 rfl) ?_
  refine lv_iconst (v := (1 : Int32)) hx hb dL_act_203 (by decide) ?_
  refine lv_iload_n hx hb dL_act_204 rfl (lv_at hl 6 rfl) ?_
  refine lv_sipush (v := (2048 : Int32)) hx hb dL_act_205 (by decide) ?_
  refine lv_idiv hx hb dL_act_208 (by decide) ?_
  refine lv_bipush (v := (12 : Int32)) hx hb dL_act_209 (by decide) ?_
  refine lv_irem hx hb dL_act_211 (by decide) ?_
  refine lv_iadd hx hb dL_act_212 ?_
  refine hwS (A0 := A) (As := [.ref (xa 0), .int (8 : Int32), .int u9, .int h9, .int ((1 : Int32) + (rmJ (y / (2048 : Int32)) (12 : Int32)))]) (rest := []) (W1 := (wSp cy xa sa sb tr na ka z)) (W2 := (wSp cy xa sa sb tr na ka (callP z 8 u9 h9 ((1 : Int32) + (rmJ (y / (2048 : Int32)) (12 : Int32)))).2.2)) (c_L_call_8 l hl0 D cy t xa sa sb tr na ka oz u9 h9 ((1 : Int32) + (rmJ (y / (2048 : Int32)) (12 : Int32)))) hCF gw_L_call.more rfl hq_L_call ⟨Nat.le_of_ble_eq_true rfl, Nat.le_of_ble_eq_true rfl⟩ hG hF hP hD hS hA h_Sp rfl hl.1 rfl (Nat.le_of_ble_eq_true rfl) dL_act_213 ⟨by show _ ≤ 20; omega, by show _ ≤ 120; omega⟩ (fun H locs hP hD hS => ?_)
  exact hw_iret hx hb hr hlocks hP hS (by omega) (by omega) dL_act_216 rfl rfl
set_option maxRecDepth 20000 in
theorem w_act6 {p : Program} {l : Launch} {e : Env} {s : State} {m : MethodId} {below : List Frame} {meth : Method} {c : Code} {D : va_G} {cy : Nat → ClassId} {t : FxA} {A : Nat → Prop} {xa sa sb tr na : Nat → Nat} {ka : Nat → Nat → Nat} {z : SpT} {x y : Int32} (C0 : LR p l s m meth c ([.ref (xa 0), .int x, .int y] : List Value).toArray cL_act 7 wc_act (some .int) D cy t A) {u9 v9 h9 : Int32} (oz : OKz z) {cells slots : Nat} (hc : cells + 7 ≤ 20) (hs : slots + 42 ≤ 120) {H : Heap} {locs : List Loc} {ls : Array Slot} (hl : lv_has ls 7 [(6, .int h9), (5, .int v9), (4, .int u9), (3, .int (uN (sU (pN z)))), (0, .ref (xa 0)), (1, .int x), (2, .int y)]) (hP : va_P D vwCl (wSp cy xa sa sb tr na ka z) H) (hD : va_D A (wSp cy xa sa sb tr na ka z)) (hS : va_S A s.heap H locs) : @Wx p l e ({ frames := 10, cells := 20, slots := 120, locals := 300 } : Room) s m ([.ref (xa 0), .int x, .int y] : List Value).toArray below meth c H locs cells slots (MQ below (va_Qi (fun r (_ : Unit) => r = (actQ z 6 u9 v9 h9 y).1) (fun _ t => va_P D vwCl (wSp cy xa sa sb tr na ka (actQ z 6 u9 v9 h9 y).2) t.heap) A) ([.ref (xa 0), .int x, .int y] : List Value).toArray s 20 120 A) (F0 m 217 ls []) := by
  obtain ⟨hx, hb, hr, hlocks, hts, hown, hCF, hG, hF, hA, hl0⟩ := C0
  refine lv_aload_n hx hb dL_act_217 rfl (lv_at hl 4 rfl) ?_
  refine lv_bipush (v := (9 : Int32)) hx hb dL_act_218 (by decide) ?_
  refine lv_iload hx hb dL_act_220 (lv_at hl 2 rfl) ?_
  refine lv_iconst (v := (0 : Int32)) hx hb dL_act_222 (by decide) ?_
  refine lv_iconst (v := (0 : Int32)) hx hb dL_act_223 (by decide) ?_
  refine hwS (A0 := A) (As := [.ref (xa 0), .int (9 : Int32), .int u9, .int (0 : Int32), .int (0 : Int32)]) (rest := []) (W1 := (wSp cy xa sa sb tr na ka z)) (W2 := (wSp cy xa sa sb tr na ka (callP z 9 u9 (0 : Int32) (0 : Int32)).2.2)) (c_L_call_9 l hl0 D cy t xa sa sb tr na ka oz u9 (0 : Int32) (0 : Int32)) hCF gw_L_call.more rfl hq_L_call ⟨Nat.le_of_ble_eq_true rfl, Nat.le_of_ble_eq_true rfl⟩ hG hF hP hD hS hA h_Sp rfl hl.1 rfl (Nat.le_of_ble_eq_true rfl) dL_act_224 ⟨by show _ ≤ 20; omega, by show _ ≤ 120; omega⟩ (fun H locs hP hD hS => ?_)
  exact hw_iret hx hb hr hlocks hP hS (by omega) (by omega) dL_act_227 rfl rfl
set_option maxRecDepth 20000 in
theorem w_act7 {p : Program} {l : Launch} {e : Env} {s : State} {m : MethodId} {below : List Frame} {meth : Method} {c : Code} {D : va_G} {cy : Nat → ClassId} {t : FxA} {A : Nat → Prop} {xa sa sb tr na : Nat → Nat} {ka : Nat → Nat → Nat} {z : SpT} {x y : Int32} (C0 : LR p l s m meth c ([.ref (xa 0), .int x, .int y] : List Value).toArray cL_act 7 wc_act (some .int) D cy t A) {u9 v9 h9 : Int32} (oz : OKz z) {cells slots : Nat} (hc : cells + 7 ≤ 20) (hs : slots + 42 ≤ 120) {H : Heap} {locs : List Loc} {ls : Array Slot} (hl : lv_has ls 7 [(6, .int h9), (5, .int v9), (4, .int u9), (3, .int (uN (sU (pN z)))), (0, .ref (xa 0)), (1, .int x), (2, .int y)]) (hP : va_P D vwCl (wSp cy xa sa sb tr na ka z) H) (hD : va_D A (wSp cy xa sa sb tr na ka z)) (hS : va_S A s.heap H locs) : @Wx p l e ({ frames := 10, cells := 20, slots := 120, locals := 300 } : Room) s m ([.ref (xa 0), .int x, .int y] : List Value).toArray below meth c H locs cells slots (MQ below (va_Qi (fun r (_ : Unit) => r = (actQ z 7 u9 v9 h9 y).1) (fun _ t => va_P D vwCl (wSp cy xa sa sb tr na ka (actQ z 7 u9 v9 h9 y).2) t.heap) A) ([.ref (xa 0), .int x, .int y] : List Value).toArray s 20 120 A) (F0 m 228 ls []) := by
  obtain ⟨hx, hb, hr, hlocks, hts, hown, hCF, hG, hF, hA, hl0⟩ := C0
  refine lv_aload_n hx hb dL_act_228 rfl (lv_at hl 4 rfl) ?_
  refine lv_bipush (v := (10 : Int32)) hx hb dL_act_229 (by decide) ?_
  refine lv_iload hx hb dL_act_231 (lv_at hl 2 rfl) ?_
  refine lv_iload hx hb dL_act_233 (lv_at hl 1 rfl) ?_
  refine lv_iconst (v := (0 : Int32)) hx hb dL_act_235 (by decide) ?_
  refine hwS (A0 := A) (As := [.ref (xa 0), .int (10 : Int32), .int u9, .int v9, .int (0 : Int32)]) (rest := []) (W1 := (wSp cy xa sa sb tr na ka z)) (W2 := (wSp cy xa sa sb tr na ka (callP z 10 u9 v9 (0 : Int32)).2.2)) (c_L_call_10 l hl0 D cy t xa sa sb tr na ka oz u9 v9 (0 : Int32)) hCF gw_L_call.more rfl hq_L_call ⟨Nat.le_of_ble_eq_true rfl, Nat.le_of_ble_eq_true rfl⟩ hG hF hP hD hS hA h_Sp rfl hl.1 rfl (Nat.le_of_ble_eq_true rfl) dL_act_236 ⟨by show _ ≤ 20; omega, by show _ ≤ 120; omega⟩ (fun H locs hP hD hS => ?_)
  exact hw_iret hx hb hr hlocks hP hS (by omega) (by omega) dL_act_239 rfl rfl
set_option maxRecDepth 20000 in
theorem w_act9 {p : Program} {l : Launch} {e : Env} {s : State} {m : MethodId} {below : List Frame} {meth : Method} {c : Code} {D : va_G} {cy : Nat → ClassId} {t : FxA} {A : Nat → Prop} {xa sa sb tr na : Nat → Nat} {ka : Nat → Nat → Nat} {z : SpT} {x y : Int32} (C0 : LR p l s m meth c ([.ref (xa 0), .int x, .int y] : List Value).toArray cL_act 7 wc_act (some .int) D cy t A) {u9 v9 h9 : Int32} (oz : OKz z) {cells slots : Nat} (hc : cells + 7 ≤ 20) (hs : slots + 42 ≤ 120) {H : Heap} {locs : List Loc} {ls : Array Slot} (hl : lv_has ls 7 [(6, .int h9), (5, .int v9), (4, .int u9), (3, .int (uN (sU (pN z)))), (0, .ref (xa 0)), (1, .int x), (2, .int y)]) (hP : va_P D vwCl (wSp cy xa sa sb tr na ka z) H) (hD : va_D A (wSp cy xa sa sb tr na ka z)) (hS : va_S A s.heap H locs) : @Wx p l e ({ frames := 10, cells := 20, slots := 120, locals := 300 } : Room) s m ([.ref (xa 0), .int x, .int y] : List Value).toArray below meth c H locs cells slots (MQ below (va_Qi (fun r (_ : Unit) => r = (actQ z 9 u9 v9 h9 y).1) (fun _ t => va_P D vwCl (wSp cy xa sa sb tr na ka (actQ z 9 u9 v9 h9 y).2) t.heap) A) ([.ref (xa 0), .int x, .int y] : List Value).toArray s 20 120 A) (F0 m 240 ls []) := by
  obtain ⟨hx, hb, hr, hlocks, hts, hown, hCF, hG, hF, hA, hl0⟩ := C0
  refine lv_aload_n hx hb dL_act_240 rfl (lv_at hl 4 rfl) ?_
  refine lv_bipush (v := (11 : Int32)) hx hb dL_act_241 (by decide) ?_
  refine lv_iload hx hb dL_act_243 (lv_at hl 0 rfl) ?_
  refine lv_iload hx hb dL_act_245 (lv_at hl 1 rfl) ?_
  refine lv_iconst (v := (1 : Int32)) hx hb dL_act_247 (by decide) ?_
  refine lv_iload_n hx hb dL_act_248 rfl (lv_at hl 6 rfl) ?_
  refine lv_sipush (v := (2048 : Int32)) hx hb dL_act_249 (by decide) ?_
  refine lv_idiv hx hb dL_act_252 (by decide) ?_
  refine lv_bipush (v := (12 : Int32)) hx hb dL_act_253 (by decide) ?_
  refine lv_irem hx hb dL_act_255 (by decide) ?_
  refine lv_iadd hx hb dL_act_256 ?_
  refine hwS (A0 := A) (As := [.ref (xa 0), .int (11 : Int32), .int h9, .int v9, .int ((1 : Int32) + (rmJ (y / (2048 : Int32)) (12 : Int32)))]) (rest := []) (W1 := (wSp cy xa sa sb tr na ka z)) (W2 := (wSp cy xa sa sb tr na ka (callP z 11 h9 v9 ((1 : Int32) + (rmJ (y / (2048 : Int32)) (12 : Int32)))).2.2)) (c_L_call_11 l hl0 D cy t xa sa sb tr na ka oz h9 v9 ((1 : Int32) + (rmJ (y / (2048 : Int32)) (12 : Int32)))) hCF gw_L_call.more rfl hq_L_call ⟨Nat.le_of_ble_eq_true rfl, Nat.le_of_ble_eq_true rfl⟩ hG hF hP hD hS hA h_Sp rfl hl.1 rfl (Nat.le_of_ble_eq_true rfl) dL_act_257 ⟨by show _ ≤ 20; omega, by show _ ≤ 120; omega⟩ (fun H locs hP hD hS => ?_)
  exact hw_iret hx hb hr hlocks hP hS (by omega) (by omega) dL_act_260 rfl rfl
set_option maxRecDepth 20000 in
theorem w_act11 {p : Program} {l : Launch} {e : Env} {s : State} {m : MethodId} {below : List Frame} {meth : Method} {c : Code} {D : va_G} {cy : Nat → ClassId} {t : FxA} {A : Nat → Prop} {xa sa sb tr na : Nat → Nat} {ka : Nat → Nat → Nat} {z : SpT} {x y : Int32} (C0 : LR p l s m meth c ([.ref (xa 0), .int x, .int y] : List Value).toArray cL_act 7 wc_act (some .int) D cy t A) {u9 v9 h9 : Int32} (oz : OKz z) {cells slots : Nat} (hc : cells + 7 ≤ 20) (hs : slots + 42 ≤ 120) {H : Heap} {locs : List Loc} {ls : Array Slot} (hl : lv_has ls 7 [(6, .int h9), (5, .int v9), (4, .int u9), (3, .int (uN (sU (pN z)))), (0, .ref (xa 0)), (1, .int x), (2, .int y)]) (hP : va_P D vwCl (wSp cy xa sa sb tr na ka z) H) (hD : va_D A (wSp cy xa sa sb tr na ka z)) (hS : va_S A s.heap H locs) : @Wx p l e ({ frames := 10, cells := 20, slots := 120, locals := 300 } : Room) s m ([.ref (xa 0), .int x, .int y] : List Value).toArray below meth c H locs cells slots (MQ below (va_Qi (fun r (_ : Unit) => r = (actQ z 11 u9 v9 h9 y).1) (fun _ t => va_P D vwCl (wSp cy xa sa sb tr na ka (actQ z 11 u9 v9 h9 y).2) t.heap) A) ([.ref (xa 0), .int x, .int y] : List Value).toArray s 20 120 A) (F0 m 261 ls []) := by
  obtain ⟨hx, hb, hr, hlocks, hts, hown, hCF, hG, hF, hA, hl0⟩ := C0
  refine lv_aload_n hx hb dL_act_261 rfl (lv_at hl 4 rfl) ?_
  refine lv_bipush (v := (12 : Int32)) hx hb dL_act_262 (by decide) ?_
  refine lv_iload hx hb dL_act_264 (lv_at hl 2 rfl) ?_
  refine lv_iconst (v := (0 : Int32)) hx hb dL_act_266 (by decide) ?_
  refine lv_iconst (v := (0 : Int32)) hx hb dL_act_267 (by decide) ?_
  refine hwS (A0 := A) (As := [.ref (xa 0), .int (12 : Int32), .int u9, .int (0 : Int32), .int (0 : Int32)]) (rest := []) (W1 := (wSp cy xa sa sb tr na ka z)) (W2 := (wSp cy xa sa sb tr na ka (callP z 12 u9 (0 : Int32) (0 : Int32)).2.2)) (c_L_call_12 l hl0 D cy t xa sa sb tr na ka oz u9 (0 : Int32) (0 : Int32)) hCF gw_L_call.more rfl hq_L_call ⟨Nat.le_of_ble_eq_true rfl, Nat.le_of_ble_eq_true rfl⟩ hG hF hP hD hS hA h_Sp rfl hl.1 rfl (Nat.le_of_ble_eq_true rfl) dL_act_268 ⟨by show _ ≤ 20; omega, by show _ ≤ 120; omega⟩ (fun H locs hP hD hS => ?_)
  exact hw_iret hx hb hr hlocks hP hS (by omega) (by omega) dL_act_271 rfl rfl
set_option maxRecDepth 20000 in
theorem w_act12 {p : Program} {l : Launch} {e : Env} {s : State} {m : MethodId} {below : List Frame} {meth : Method} {c : Code} {D : va_G} {cy : Nat → ClassId} {t : FxA} {A : Nat → Prop} {xa sa sb tr na : Nat → Nat} {ka : Nat → Nat → Nat} {z : SpT} {x y : Int32} (C0 : LR p l s m meth c ([.ref (xa 0), .int x, .int y] : List Value).toArray cL_act 7 wc_act (some .int) D cy t A) {u9 v9 h9 : Int32} (oz : OKz z) {cells slots : Nat} (hc : cells + 7 ≤ 20) (hs : slots + 42 ≤ 120) {H : Heap} {locs : List Loc} {ls : Array Slot} (hl : lv_has ls 7 [(6, .int h9), (5, .int v9), (4, .int u9), (3, .int (uN (sU (pN z)))), (0, .ref (xa 0)), (1, .int x), (2, .int y)]) (hP : va_P D vwCl (wSp cy xa sa sb tr na ka z) H) (hD : va_D A (wSp cy xa sa sb tr na ka z)) (hS : va_S A s.heap H locs) : @Wx p l e ({ frames := 10, cells := 20, slots := 120, locals := 300 } : Room) s m ([.ref (xa 0), .int x, .int y] : List Value).toArray below meth c H locs cells slots (MQ below (va_Qi (fun r (_ : Unit) => r = (actQ z 12 u9 v9 h9 y).1) (fun _ t => va_P D vwCl (wSp cy xa sa sb tr na ka (actQ z 12 u9 v9 h9 y).2) t.heap) A) ([.ref (xa 0), .int x, .int y] : List Value).toArray s 20 120 A) (F0 m 272 ls []) := by
  obtain ⟨hx, hb, hr, hlocks, hts, hown, hCF, hG, hF, hA, hl0⟩ := C0
  refine lv_aload_n hx hb dL_act_272 rfl (lv_at hl 4 rfl) ?_
  refine lv_iload hx hb dL_act_273 (lv_at hl 0 rfl) ?_
  refine lv_iload_n hx hb dL_act_275 rfl (lv_at hl 6 rfl) ?_
  refine lv_iconst (v := (5 : Int32)) hx hb dL_act_276 (by decide) ?_
  refine lv_irem hx hb dL_act_277 (by decide) ?_
  refine lv_iload_n hx hb dL_act_278 rfl (lv_at hl 6 rfl) ?_
  refine lv_bipush (v := (16 : Int32)) hx hb dL_act_279 (by decide) ?_
  refine lv_idiv hx hb dL_act_281 (by decide) ?_
  refine lv_iconst (v := (3 : Int32)) hx hb dL_act_282 (by decide) ?_
  refine lv_irem hx hb dL_act_283 (by decide) ?_
  refine lv_iload_n hx hb dL_act_284 rfl (lv_at hl 6 rfl) ?_
  refine lv_bipush (v := (64 : Int32)) hx hb dL_act_285 (by decide) ?_
  refine lv_idiv hx hb dL_act_287 (by decide) ?_
  refine lv_iconst (v := (3 : Int32)) hx hb dL_act_288 (by decide) ?_
  refine lv_irem hx hb dL_act_289 (by decide) ?_
  refine hwSW (A0 := A) (As := [.ref (xa 0), .int h9, .int (rmJ y (5 : Int32)), .int (rmJ (y / (16 : Int32)) (3 : Int32)), .int (rmJ (y / (64 : Int32)) (3 : Int32))]) (rest := []) (W1 := (wSp cy xa sa sb tr na ka z)) (W2 := (wSp cy xa sa sb tr na ka (m_X8_settle z h9 (rmJ y (5 : Int32)) (rmJ (y / (16 : Int32)) (3 : Int32)) (rmJ (y / (64 : Int32)) (3 : Int32))).2.2)) (c_L_trySettle l hl0 D cy t xa sa sb tr na ka oz h9 (rmJ y (5 : Int32)) (rmJ (y / (16 : Int32)) (3 : Int32)) (rmJ (y / (64 : Int32)) (3 : Int32))) hCF gw_L_trySettle.more rfl hq_L_trySettle ⟨Nat.le_of_ble_eq_true rfl, Nat.le_of_ble_eq_true rfl⟩ hG hF hP hD hS hA h_Sp rfl hl.1 rfl (Nat.le_of_ble_eq_true rfl) dL_act_290 ⟨by show _ ≤ 20; omega, by show _ ≤ 120; omega⟩ (fun H locs hP hD hS => ?_)
  exact hw_iret hx hb hr hlocks hP hS (by omega) (by omega) dL_act_293 rfl rfl
set_option maxRecDepth 20000 in
theorem w_act13 {p : Program} {l : Launch} {e : Env} {s : State} {m : MethodId} {below : List Frame} {meth : Method} {c : Code} {D : va_G} {cy : Nat → ClassId} {t : FxA} {A : Nat → Prop} {xa sa sb tr na : Nat → Nat} {ka : Nat → Nat → Nat} {z : SpT} {x y : Int32} (C0 : LR p l s m meth c ([.ref (xa 0), .int x, .int y] : List Value).toArray cL_act 7 wc_act (some .int) D cy t A) {u9 v9 h9 : Int32} (oz : OKz z) {cells slots : Nat} (hc : cells + 7 ≤ 20) (hs : slots + 42 ≤ 120) {H : Heap} {locs : List Loc} {ls : Array Slot} (hl : lv_has ls 7 [(6, .int h9), (5, .int v9), (4, .int u9), (3, .int (uN (sU (pN z)))), (0, .ref (xa 0)), (1, .int x), (2, .int y)]) (hP : va_P D vwCl (wSp cy xa sa sb tr na ka z) H) (hD : va_D A (wSp cy xa sa sb tr na ka z)) (hS : va_S A s.heap H locs) : @Wx p l e ({ frames := 10, cells := 20, slots := 120, locals := 300 } : Room) s m ([.ref (xa 0), .int x, .int y] : List Value).toArray below meth c H locs cells slots (MQ below (va_Qi (fun r (_ : Unit) => r = (actQ z 13 u9 v9 h9 y).1) (fun _ t => va_P D vwCl (wSp cy xa sa sb tr na ka (actQ z 13 u9 v9 h9 y).2) t.heap) A) ([.ref (xa 0), .int x, .int y] : List Value).toArray s 20 120 A) (F0 m 294 ls []) := by
  obtain ⟨hx, hb, hr, hlocks, hts, hown, hCF, hG, hF, hA, hl0⟩ := C0
  refine lv_aload_n hx hb dL_act_294 rfl (lv_at hl 4 rfl) ?_
  refine lv_bipush (v := (14 : Int32)) hx hb dL_act_295 (by decide) ?_
  refine lv_iload hx hb dL_act_297 (lv_at hl 2 rfl) ?_
  refine lv_iload_n hx hb dL_act_299 rfl (lv_at hl 6 rfl) ?_
  refine lv_bipush (v := (16 : Int32)) hx hb dL_act_300 (by decide) ?_
  refine lv_idiv hx hb dL_act_302 (by decide) ?_
  refine lv_iconst (v := (3 : Int32)) hx hb dL_act_303 (by decide) ?_
  refine lv_irem hx hb dL_act_304 (by decide) ?_
  refine lv_iconst (v := (0 : Int32)) hx hb dL_act_305 (by decide) ?_
  refine hwS (A0 := A) (As := [.ref (xa 0), .int (14 : Int32), .int u9, .int (rmJ (y / (16 : Int32)) (3 : Int32)), .int (0 : Int32)]) (rest := []) (W1 := (wSp cy xa sa sb tr na ka z)) (W2 := (wSp cy xa sa sb tr na ka (callP z 14 u9 (rmJ (y / (16 : Int32)) (3 : Int32)) (0 : Int32)).2.2)) (c_L_call_14 l hl0 D cy t xa sa sb tr na ka oz u9 (rmJ (y / (16 : Int32)) (3 : Int32)) (0 : Int32)) hCF gw_L_call.more rfl hq_L_call ⟨Nat.le_of_ble_eq_true rfl, Nat.le_of_ble_eq_true rfl⟩ hG hF hP hD hS hA h_Sp rfl hl.1 rfl (Nat.le_of_ble_eq_true rfl) dL_act_306 ⟨by show _ ≤ 20; omega, by show _ ≤ 120; omega⟩ (fun H locs hP hD hS => ?_)
  exact hw_iret hx hb hr hlocks hP hS (by omega) (by omega) dL_act_309 rfl rfl
set_option maxRecDepth 20000 in
theorem w_act14 {p : Program} {l : Launch} {e : Env} {s : State} {m : MethodId} {below : List Frame} {meth : Method} {c : Code} {D : va_G} {cy : Nat → ClassId} {t : FxA} {A : Nat → Prop} {xa sa sb tr na : Nat → Nat} {ka : Nat → Nat → Nat} {z : SpT} {x y : Int32} (C0 : LR p l s m meth c ([.ref (xa 0), .int x, .int y] : List Value).toArray cL_act 7 wc_act (some .int) D cy t A) {u9 v9 h9 : Int32} (oz : OKz z) {cells slots : Nat} (hc : cells + 7 ≤ 20) (hs : slots + 42 ≤ 120) {H : Heap} {locs : List Loc} {ls : Array Slot} (hl : lv_has ls 7 [(6, .int h9), (5, .int v9), (4, .int u9), (3, .int (uN (sU (pN z)))), (0, .ref (xa 0)), (1, .int x), (2, .int y)]) (hP : va_P D vwCl (wSp cy xa sa sb tr na ka z) H) (hD : va_D A (wSp cy xa sa sb tr na ka z)) (hS : va_S A s.heap H locs) : @Wx p l e ({ frames := 10, cells := 20, slots := 120, locals := 300 } : Room) s m ([.ref (xa 0), .int x, .int y] : List Value).toArray below meth c H locs cells slots (MQ below (va_Qi (fun r (_ : Unit) => r = (actQ z 14 u9 v9 h9 y).1) (fun _ t => va_P D vwCl (wSp cy xa sa sb tr na ka (actQ z 14 u9 v9 h9 y).2) t.heap) A) ([.ref (xa 0), .int x, .int y] : List Value).toArray s 20 120 A) (F0 m 310 ls []) := by
  obtain ⟨hx, hb, hr, hlocks, hts, hown, hCF, hG, hF, hA, hl0⟩ := C0
  refine lv_aload_n hx hb dL_act_310 rfl (lv_at hl 4 rfl) ?_
  refine lv_bipush (v := (16 : Int32)) hx hb dL_act_311 (by decide) ?_
  refine lv_iload_n hx hb dL_act_313 rfl (lv_at hl 6 rfl) ?_
  refine lv_iconst (v := (3 : Int32)) hx hb dL_act_314 (by decide) ?_
  refine lv_irem hx hb dL_act_315 (by decide) ?_
  refine lv_iload_n hx hb dL_act_316 rfl (lv_at hl 6 rfl) ?_
  refine lv_iconst (v := (4 : Int32)) hx hb dL_act_317 (by decide) ?_
  refine lv_idiv hx hb dL_act_318 (by decide) ?_
  refine lv_bipush (v := (90 : Int32)) hx hb dL_act_319 (by decide) ?_
  refine lv_irem hx hb dL_act_321 (by decide) ?_
  refine lv_iconst (v := (0 : Int32)) hx hb dL_act_322 (by decide) ?_
  refine hwS (A0 := A) (As := [.ref (xa 0), .int (16 : Int32), .int (rmJ y (3 : Int32)), .int (rmJ (y / (4 : Int32)) (90 : Int32)), .int (0 : Int32)]) (rest := []) (W1 := (wSp cy xa sa sb tr na ka z)) (W2 := (wSp cy xa sa sb tr na ka (callP z 16 (rmJ y (3 : Int32)) (rmJ (y / (4 : Int32)) (90 : Int32)) (0 : Int32)).2.2)) (c_L_call_16 l hl0 D cy t xa sa sb tr na ka oz (rmJ y (3 : Int32)) (rmJ (y / (4 : Int32)) (90 : Int32)) (0 : Int32)) hCF gw_L_call.more rfl hq_L_call ⟨Nat.le_of_ble_eq_true rfl, Nat.le_of_ble_eq_true rfl⟩ hG hF hP hD hS hA h_Sp rfl hl.1 rfl (Nat.le_of_ble_eq_true rfl) dL_act_323 ⟨by show _ ≤ 20; omega, by show _ ≤ 120; omega⟩ (fun H locs hP hD hS => ?_)
  exact hw_iret hx hb hr hlocks hP hS (by omega) (by omega) dL_act_326 rfl rfl
set_option maxRecDepth 20000 in
theorem w_act15 {p : Program} {l : Launch} {e : Env} {s : State} {m : MethodId} {below : List Frame} {meth : Method} {c : Code} {D : va_G} {cy : Nat → ClassId} {t : FxA} {A : Nat → Prop} {xa sa sb tr na : Nat → Nat} {ka : Nat → Nat → Nat} {z : SpT} {x y : Int32} (C0 : LR p l s m meth c ([.ref (xa 0), .int x, .int y] : List Value).toArray cL_act 7 wc_act (some .int) D cy t A) {u9 v9 h9 : Int32} (oz : OKz z) {cells slots : Nat} (hc : cells + 7 ≤ 20) (hs : slots + 42 ≤ 120) {H : Heap} {locs : List Loc} {ls : Array Slot} (hl : lv_has ls 7 [(6, .int h9), (5, .int v9), (4, .int u9), (3, .int (uN (sU (pN z)))), (0, .ref (xa 0)), (1, .int x), (2, .int y)]) (hP : va_P D vwCl (wSp cy xa sa sb tr na ka z) H) (hD : va_D A (wSp cy xa sa sb tr na ka z)) (hS : va_S A s.heap H locs) : @Wx p l e ({ frames := 10, cells := 20, slots := 120, locals := 300 } : Room) s m ([.ref (xa 0), .int x, .int y] : List Value).toArray below meth c H locs cells slots (MQ below (va_Qi (fun r (_ : Unit) => r = (actQ z 15 u9 v9 h9 y).1) (fun _ t => va_P D vwCl (wSp cy xa sa sb tr na ka (actQ z 15 u9 v9 h9 y).2) t.heap) A) ([.ref (xa 0), .int x, .int y] : List Value).toArray s 20 120 A) (F0 m 327 ls []) := by
  obtain ⟨hx, hb, hr, hlocks, hts, hown, hCF, hG, hF, hA, hl0⟩ := C0
  refine lv_aload_n hx hb dL_act_327 rfl (lv_at hl 4 rfl) ?_
  refine lv_bipush (v := (17 : Int32)) hx hb dL_act_328 (by decide) ?_
  refine lv_iconst (v := (0 : Int32)) hx hb dL_act_330 (by decide) ?_
  refine lv_iconst (v := (0 : Int32)) hx hb dL_act_331 (by decide) ?_
  refine lv_iconst (v := (0 : Int32)) hx hb dL_act_332 (by decide) ?_
  refine hwS (A0 := A) (As := [.ref (xa 0), .int (17 : Int32), .int (0 : Int32), .int (0 : Int32), .int (0 : Int32)]) (rest := []) (W1 := (wSp cy xa sa sb tr na ka z)) (W2 := (wSp cy xa sa sb tr na ka (callP z 17 (0 : Int32) (0 : Int32) (0 : Int32)).2.2)) (c_L_call_17 l hl0 D cy t xa sa sb tr na ka oz (0 : Int32) (0 : Int32) (0 : Int32)) hCF gw_L_call.more rfl hq_L_call ⟨Nat.le_of_ble_eq_true rfl, Nat.le_of_ble_eq_true rfl⟩ hG hF hP hD hS hA h_Sp rfl hl.1 rfl (Nat.le_of_ble_eq_true rfl) dL_act_333 ⟨by show _ ≤ 20; omega, by show _ ≤ 120; omega⟩ (fun H locs hP hD hS => ?_)
  exact hw_iret hx hb hr hlocks hP hS (by omega) (by omega) dL_act_336 rfl rfl
set_option maxRecDepth 20000 in
theorem w_act16 {p : Program} {l : Launch} {e : Env} {s : State} {m : MethodId} {below : List Frame} {meth : Method} {c : Code} {D : va_G} {cy : Nat → ClassId} {t : FxA} {A : Nat → Prop} {xa sa sb tr na : Nat → Nat} {ka : Nat → Nat → Nat} {z : SpT} {x y : Int32} (C0 : LR p l s m meth c ([.ref (xa 0), .int x, .int y] : List Value).toArray cL_act 7 wc_act (some .int) D cy t A) {u9 v9 h9 : Int32} (oz : OKz z) {cells slots : Nat} (hc : cells + 7 ≤ 20) (hs : slots + 42 ≤ 120) {H : Heap} {locs : List Loc} {ls : Array Slot} (hl : lv_has ls 7 [(6, .int h9), (5, .int v9), (4, .int u9), (3, .int (uN (sU (pN z)))), (0, .ref (xa 0)), (1, .int x), (2, .int y)]) (hP : va_P D vwCl (wSp cy xa sa sb tr na ka z) H) (hD : va_D A (wSp cy xa sa sb tr na ka z)) (hS : va_S A s.heap H locs) : @Wx p l e ({ frames := 10, cells := 20, slots := 120, locals := 300 } : Room) s m ([.ref (xa 0), .int x, .int y] : List Value).toArray below meth c H locs cells slots (MQ below (va_Qi (fun r (_ : Unit) => r = (actQ z 16 u9 v9 h9 y).1) (fun _ t => va_P D vwCl (wSp cy xa sa sb tr na ka (actQ z 16 u9 v9 h9 y).2) t.heap) A) ([.ref (xa 0), .int x, .int y] : List Value).toArray s 20 120 A) (F0 m 337 ls []) := by
  obtain ⟨hx, hb, hr, hlocks, hts, hown, hCF, hG, hF, hA, hl0⟩ := C0
  refine lv_aload_n hx hb dL_act_337 rfl (lv_at hl 4 rfl) ?_
  refine lv_bipush (v := (22 : Int32)) hx hb dL_act_338 (by decide) ?_
  refine lv_iload_n hx hb dL_act_340 rfl (lv_at hl 6 rfl) ?_
  refine lv_iconst (v := (2 : Int32)) hx hb dL_act_341 (by decide) ?_
  refine lv_irem hx hb dL_act_342 (by decide) ?_
  refine lv_iconst (v := (0 : Int32)) hx hb dL_act_343 (by decide) ?_
  refine lv_iconst (v := (0 : Int32)) hx hb dL_act_344 (by decide) ?_
  refine hwS (A0 := A) (As := [.ref (xa 0), .int (22 : Int32), .int (rmJ y (2 : Int32)), .int (0 : Int32), .int (0 : Int32)]) (rest := []) (W1 := (wSp cy xa sa sb tr na ka z)) (W2 := (wSp cy xa sa sb tr na ka (callP z 22 (rmJ y (2 : Int32)) (0 : Int32) (0 : Int32)).2.2)) (c_L_call_22 l hl0 D cy t xa sa sb tr na ka oz (rmJ y (2 : Int32)) (0 : Int32) (0 : Int32)) hCF gw_L_call.more rfl hq_L_call ⟨Nat.le_of_ble_eq_true rfl, Nat.le_of_ble_eq_true rfl⟩ hG hF hP hD hS hA h_Sp rfl hl.1 rfl (Nat.le_of_ble_eq_true rfl) dL_act_345 ⟨by show _ ≤ 20; omega, by show _ ≤ 120; omega⟩ (fun H locs hP hD hS => ?_)
  exact hw_iret hx hb hr hlocks hP hS (by omega) (by omega) dL_act_348 rfl rfl
set_option maxRecDepth 20000 in
theorem w_act17 {p : Program} {l : Launch} {e : Env} {s : State} {m : MethodId} {below : List Frame} {meth : Method} {c : Code} {D : va_G} {cy : Nat → ClassId} {t : FxA} {A : Nat → Prop} {xa sa sb tr na : Nat → Nat} {ka : Nat → Nat → Nat} {z : SpT} {x y : Int32} (C0 : LR p l s m meth c ([.ref (xa 0), .int x, .int y] : List Value).toArray cL_act 7 wc_act (some .int) D cy t A) {u9 v9 h9 : Int32} (oz : OKz z) {cells slots : Nat} (hc : cells + 7 ≤ 20) (hs : slots + 42 ≤ 120) {H : Heap} {locs : List Loc} {ls : Array Slot} (hl : lv_has ls 7 [(6, .int h9), (5, .int v9), (4, .int u9), (3, .int (uN (sU (pN z)))), (0, .ref (xa 0)), (1, .int x), (2, .int y)]) (hP : va_P D vwCl (wSp cy xa sa sb tr na ka z) H) (hD : va_D A (wSp cy xa sa sb tr na ka z)) (hS : va_S A s.heap H locs) : @Wx p l e ({ frames := 10, cells := 20, slots := 120, locals := 300 } : Room) s m ([.ref (xa 0), .int x, .int y] : List Value).toArray below meth c H locs cells slots (MQ below (va_Qi (fun r (_ : Unit) => r = (actQ z 17 u9 v9 h9 y).1) (fun _ t => va_P D vwCl (wSp cy xa sa sb tr na ka (actQ z 17 u9 v9 h9 y).2) t.heap) A) ([.ref (xa 0), .int x, .int y] : List Value).toArray s 20 120 A) (F0 m 349 ls []) := by
  obtain ⟨hx, hb, hr, hlocks, hts, hown, hCF, hG, hF, hA, hl0⟩ := C0
  refine lv_aload_n hx hb dL_act_349 rfl (lv_at hl 4 rfl) ?_
  refine lv_bipush (v := (23 : Int32)) hx hb dL_act_350 (by decide) ?_
  refine lv_iload_n hx hb dL_act_352 rfl (lv_at hl 6 rfl) ?_
  refine lv_iconst (v := (2 : Int32)) hx hb dL_act_353 (by decide) ?_
  refine lv_irem hx hb dL_act_354 (by decide) ?_
  refine lv_iconst (v := (0 : Int32)) hx hb dL_act_355 (by decide) ?_
  refine lv_iconst (v := (0 : Int32)) hx hb dL_act_356 (by decide) ?_
  refine hwS (A0 := A) (As := [.ref (xa 0), .int (23 : Int32), .int (rmJ y (2 : Int32)), .int (0 : Int32), .int (0 : Int32)]) (rest := []) (W1 := (wSp cy xa sa sb tr na ka z)) (W2 := (wSp cy xa sa sb tr na ka (callP z 23 (rmJ y (2 : Int32)) (0 : Int32) (0 : Int32)).2.2)) (c_L_call_23 l hl0 D cy t xa sa sb tr na ka oz (rmJ y (2 : Int32)) (0 : Int32) (0 : Int32)) hCF gw_L_call.more rfl hq_L_call ⟨Nat.le_of_ble_eq_true rfl, Nat.le_of_ble_eq_true rfl⟩ hG hF hP hD hS hA h_Sp rfl hl.1 rfl (Nat.le_of_ble_eq_true rfl) dL_act_357 ⟨by show _ ≤ 20; omega, by show _ ≤ 120; omega⟩ (fun H locs hP hD hS => ?_)
  exact hw_iret hx hb hr hlocks hP hS (by omega) (by omega) dL_act_360 rfl rfl
set_option maxRecDepth 20000 in
theorem w_act18 {p : Program} {l : Launch} {e : Env} {s : State} {m : MethodId} {below : List Frame} {meth : Method} {c : Code} {D : va_G} {cy : Nat → ClassId} {t : FxA} {A : Nat → Prop} {xa sa sb tr na : Nat → Nat} {ka : Nat → Nat → Nat} {z : SpT} {x y : Int32} (C0 : LR p l s m meth c ([.ref (xa 0), .int x, .int y] : List Value).toArray cL_act 7 wc_act (some .int) D cy t A) {u9 v9 h9 : Int32} {T : Int} {mo : MoT} (H9 : PR T z mo) (h0 : 100000 ≤ T) (h1 : T ≤ 900000) {cells slots : Nat} (hc : cells + 7 ≤ 20) (hs : slots + 42 ≤ 120) {H : Heap} {locs : List Loc} {ls : Array Slot} (hl : lv_has ls 7 [(6, .int h9), (5, .int v9), (4, .int u9), (3, .int (uN (sU (pN z)))), (0, .ref (xa 0)), (1, .int x), (2, .int y)]) (hP : va_P D vwCl (wSp cy xa sa sb tr na ka z) H) (hD : va_D A (wSp cy xa sa sb tr na ka z)) (hS : va_S A s.heap H locs) : @Wx p l e ({ frames := 10, cells := 20, slots := 120, locals := 300 } : Room) s m ([.ref (xa 0), .int x, .int y] : List Value).toArray below meth c H locs cells slots (MQ below (va_Qi (fun r (_ : Unit) => r = (actQ z 18 u9 v9 h9 y).1) (fun _ t => va_P D vwCl (wSp cy xa sa sb tr na ka (actQ z 18 u9 v9 h9 y).2) t.heap) A) ([.ref (xa 0), .int x, .int y] : List Value).toArray s 20 120 A) (F0 m 361 ls []) := by
  obtain ⟨hx, hb, hr, hlocks, hts, hown, hCF, hG, hF, hA, hl0⟩ := C0
  have G0 := (ag_clearText H9).1
  refine lv_aload_n hx hb dL_act_361 rfl (lv_at hl 4 rfl) ?_
  refine mwV (ci := 6) (A0 := A) (As := []) (rest := []) (W1 := (wSp cy xa sa sb tr na ka z)) (W2 := (wSp cy xa sa sb tr na ka (tx0a z))) (c_X8_clearText l D cy xa sa sb tr na ka z) hCF gw_X8_clearText.more rfl hq_X8_clearText ⟨rfl, rfl, Nat.le_of_ble_eq_true rfl, Nat.le_of_ble_eq_true rfl⟩ hG hP hD hS hA h_Sp rfl rfl (List.mem_of_getElem? g_Sp_0) rfl hl.1 rfl (Nat.le_of_ble_eq_true rfl) dL_act_362 ⟨by show _ ≤ 20; omega, by show _ ≤ 120; omega⟩ (fun H locs hP hD hS => ?_)
  have q0 : OKz (tx0a z) := ⟨_, _, by omega, by omega, G0⟩
  refine lv_pop hx hb dL_act_365 rfl ?_
  refine lv_aload_n hx hb dL_act_366 rfl (lv_at hl 4 rfl) ?_
  refine lv_iconst (v := (0 : Int32)) hx hb dL_act_367 (by decide) ?_
  refine lv_bipush (v := (85 : Int32)) hx hb dL_act_368 (by decide) ?_
  refine lv_iconst (v := (0 : Int32)) hx hb dL_act_370 (by decide) ?_
  refine lv_iconst (v := (0 : Int32)) hx hb dL_act_371 (by decide) ?_
  refine hwS (A0 := A) (As := [.ref (xa 0), .int (0 : Int32), .int (85 : Int32), .int (0 : Int32), .int (0 : Int32)]) (rest := []) (W1 := (wSp cy xa sa sb tr na ka (tx0a z))) (W2 := (wSp cy xa sa sb tr na ka (txA (tx0a z) (85 : Int32)))) (c_L_call_0 l hl0 D cy t xa sa sb tr na ka q0 (85 : Int32) (0 : Int32) (0 : Int32)) hCF gw_L_call.more rfl hq_L_call ⟨Nat.le_of_ble_eq_true rfl, Nat.le_of_ble_eq_true rfl⟩ hG hF hP hD hS hA h_Sp rfl hl.1 rfl (Nat.le_of_ble_eq_true rfl) dL_act_372 ⟨by show _ ≤ 20; omega, by show _ ≤ 120; omega⟩ (fun H locs hP hD hS => ?_)
  have G1 := (ag_append (x1 := (85 : Int32)) G0).1
  have q1 : OKz (txA (tx0a z) (85 : Int32)) := ⟨_, _, by omega, by omega, G1⟩
  refine lv_aload_n hx hb dL_act_375 rfl (lv_at hl 4 rfl) ?_
  refine lv_iconst (v := (0 : Int32)) hx hb dL_act_376 (by decide) ?_
  refine lv_bipush (v := (110 : Int32)) hx hb dL_act_377 (by decide) ?_
  refine lv_iconst (v := (0 : Int32)) hx hb dL_act_379 (by decide) ?_
  refine lv_iconst (v := (0 : Int32)) hx hb dL_act_380 (by decide) ?_
  refine hwS (A0 := A) (As := [.ref (xa 0), .int (0 : Int32), .int (110 : Int32), .int (0 : Int32), .int (0 : Int32)]) (rest := [.int (kV (callP (tx0a z) 0 (85 : Int32) 0 0))]) (W1 := (wSp cy xa sa sb tr na ka (txA (tx0a z) (85 : Int32)))) (W2 := (wSp cy xa sa sb tr na ka (txA (txA (tx0a z) (85 : Int32)) (110 : Int32)))) (c_L_call_0 l hl0 D cy t xa sa sb tr na ka q1 (110 : Int32) (0 : Int32) (0 : Int32)) hCF gw_L_call.more rfl hq_L_call ⟨Nat.le_of_ble_eq_true rfl, Nat.le_of_ble_eq_true rfl⟩ hG hF hP hD hS hA h_Sp rfl hl.1 rfl (Nat.le_of_ble_eq_true rfl) dL_act_381 ⟨by show _ ≤ 20; omega, by show _ ≤ 120; omega⟩ (fun H locs hP hD hS => ?_)
  have G2 := (ag_append (x1 := (110 : Int32)) G1).1
  have q2 : OKz (txA (txA (tx0a z) (85 : Int32)) (110 : Int32)) := ⟨_, _, by omega, by omega, G2⟩
  refine lv_iadd hx hb dL_act_384 ?_
  refine lv_aload_n hx hb dL_act_385 rfl (lv_at hl 4 rfl) ?_
  refine lv_iconst (v := (0 : Int32)) hx hb dL_act_386 (by decide) ?_
  refine lv_bipush (v := (48 : Int32)) hx hb dL_act_387 (by decide) ?_
  refine lv_iload_n hx hb dL_act_389 rfl (lv_at hl 6 rfl) ?_
  refine lv_iconst (v := (4 : Int32)) hx hb dL_act_390 (by decide) ?_
  refine lv_irem hx hb dL_act_391 (by decide) ?_
  refine lv_iadd hx hb dL_act_392 ?_
  refine lv_iconst (v := (0 : Int32)) hx hb dL_act_393 (by decide) ?_
  refine lv_iconst (v := (0 : Int32)) hx hb dL_act_394 (by decide) ?_
  refine hwS (A0 := A) (As := [.ref (xa 0), .int (0 : Int32), .int ((48 : Int32) + (rmJ y (4 : Int32))), .int (0 : Int32), .int (0 : Int32)]) (rest := [.int ((kV (callP (tx0a z) 0 (85 : Int32) 0 0)) + (kV (callP (txA (tx0a z) (85 : Int32)) 0 (110 : Int32) 0 0)))]) (W1 := (wSp cy xa sa sb tr na ka (txA (txA (tx0a z) (85 : Int32)) (110 : Int32)))) (W2 := (wSp cy xa sa sb tr na ka (txA (txA (txA (tx0a z) (85 : Int32)) (110 : Int32)) ((48 : Int32) + (rmJ y (4 : Int32)))))) (c_L_call_0 l hl0 D cy t xa sa sb tr na ka q2 ((48 : Int32) + (rmJ y (4 : Int32))) (0 : Int32) (0 : Int32)) hCF gw_L_call.more rfl hq_L_call ⟨Nat.le_of_ble_eq_true rfl, Nat.le_of_ble_eq_true rfl⟩ hG hF hP hD hS hA h_Sp rfl hl.1 rfl (Nat.le_of_ble_eq_true rfl) dL_act_395 ⟨by show _ ≤ 20; omega, by show _ ≤ 120; omega⟩ (fun H locs hP hD hS => ?_)
  have G3 := (ag_append (x1 := ((48 : Int32) + (rmJ y (4 : Int32)))) G2).1
  have q3 : OKz (txA (txA (txA (tx0a z) (85 : Int32)) (110 : Int32)) ((48 : Int32) + (rmJ y (4 : Int32)))) := ⟨_, _, by omega, by omega, G3⟩
  refine lv_iadd hx hb dL_act_398 ?_
  refine lv_aload_n hx hb dL_act_399 rfl (lv_at hl 4 rfl) ?_
  refine lv_iconst (v := (0 : Int32)) hx hb dL_act_400 (by decide) ?_
  refine lv_bipush (v := (48 : Int32)) hx hb dL_act_401 (by decide) ?_
  refine lv_iload_n hx hb dL_act_403 rfl (lv_at hl 6 rfl) ?_
  refine lv_iconst (v := (4 : Int32)) hx hb dL_act_404 (by decide) ?_
  refine lv_idiv hx hb dL_act_405 (by decide) ?_
  refine lv_iconst (v := (5 : Int32)) hx hb dL_act_406 (by decide) ?_
  refine lv_irem hx hb dL_act_407 (by decide) ?_
  refine lv_iadd hx hb dL_act_408 ?_
  refine lv_iconst (v := (0 : Int32)) hx hb dL_act_409 (by decide) ?_
  refine lv_iconst (v := (0 : Int32)) hx hb dL_act_410 (by decide) ?_
  refine hwS (A0 := A) (As := [.ref (xa 0), .int (0 : Int32), .int ((48 : Int32) + (rmJ (y / (4 : Int32)) (5 : Int32))), .int (0 : Int32), .int (0 : Int32)]) (rest := [.int (((kV (callP (tx0a z) 0 (85 : Int32) 0 0)) + (kV (callP (txA (tx0a z) (85 : Int32)) 0 (110 : Int32) 0 0))) + (kV (callP (txA (txA (tx0a z) (85 : Int32)) (110 : Int32)) 0 ((48 : Int32) + (rmJ y (4 : Int32))) 0 0)))]) (W1 := (wSp cy xa sa sb tr na ka (txA (txA (txA (tx0a z) (85 : Int32)) (110 : Int32)) ((48 : Int32) + (rmJ y (4 : Int32)))))) (W2 := (wSp cy xa sa sb tr na ka (txA (txA (txA (txA (tx0a z) (85 : Int32)) (110 : Int32)) ((48 : Int32) + (rmJ y (4 : Int32)))) ((48 : Int32) + (rmJ (y / (4 : Int32)) (5 : Int32)))))) (c_L_call_0 l hl0 D cy t xa sa sb tr na ka q3 ((48 : Int32) + (rmJ (y / (4 : Int32)) (5 : Int32))) (0 : Int32) (0 : Int32)) hCF gw_L_call.more rfl hq_L_call ⟨Nat.le_of_ble_eq_true rfl, Nat.le_of_ble_eq_true rfl⟩ hG hF hP hD hS hA h_Sp rfl hl.1 rfl (Nat.le_of_ble_eq_true rfl) dL_act_411 ⟨by show _ ≤ 20; omega, by show _ ≤ 120; omega⟩ (fun H locs hP hD hS => ?_)
  have G4 := (ag_append (x1 := ((48 : Int32) + (rmJ (y / (4 : Int32)) (5 : Int32)))) G3).1
  have q4 : OKz (txA (txA (txA (txA (tx0a z) (85 : Int32)) (110 : Int32)) ((48 : Int32) + (rmJ y (4 : Int32)))) ((48 : Int32) + (rmJ (y / (4 : Int32)) (5 : Int32)))) := ⟨_, _, by omega, by omega, G4⟩
  refine lv_iadd hx hb dL_act_414 ?_
  refine lv_aload_n hx hb dL_act_415 rfl (lv_at hl 4 rfl) ?_
  refine lv_iconst (v := (0 : Int32)) hx hb dL_act_416 (by decide) ?_
  refine lv_bipush (v := (48 : Int32)) hx hb dL_act_417 (by decide) ?_
  refine lv_iload_n hx hb dL_act_419 rfl (lv_at hl 6 rfl) ?_
  refine lv_bipush (v := (32 : Int32)) hx hb dL_act_420 (by decide) ?_
  refine lv_idiv hx hb dL_act_422 (by decide) ?_
  refine lv_bipush (v := (9 : Int32)) hx hb dL_act_423 (by decide) ?_
  refine lv_irem hx hb dL_act_425 (by decide) ?_
  refine lv_iadd hx hb dL_act_426 ?_
  refine lv_iconst (v := (0 : Int32)) hx hb dL_act_427 (by decide) ?_
  refine lv_iconst (v := (0 : Int32)) hx hb dL_act_428 (by decide) ?_
  refine hwS (A0 := A) (As := [.ref (xa 0), .int (0 : Int32), .int ((48 : Int32) + (rmJ (y / (32 : Int32)) (9 : Int32))), .int (0 : Int32), .int (0 : Int32)]) (rest := [.int ((((kV (callP (tx0a z) 0 (85 : Int32) 0 0)) + (kV (callP (txA (tx0a z) (85 : Int32)) 0 (110 : Int32) 0 0))) + (kV (callP (txA (txA (tx0a z) (85 : Int32)) (110 : Int32)) 0 ((48 : Int32) + (rmJ y (4 : Int32))) 0 0))) + (kV (callP (txA (txA (txA (tx0a z) (85 : Int32)) (110 : Int32)) ((48 : Int32) + (rmJ y (4 : Int32)))) 0 ((48 : Int32) + (rmJ (y / (4 : Int32)) (5 : Int32))) 0 0)))]) (W1 := (wSp cy xa sa sb tr na ka (txA (txA (txA (txA (tx0a z) (85 : Int32)) (110 : Int32)) ((48 : Int32) + (rmJ y (4 : Int32)))) ((48 : Int32) + (rmJ (y / (4 : Int32)) (5 : Int32)))))) (W2 := (wSp cy xa sa sb tr na ka (txA (txA (txA (txA (txA (tx0a z) (85 : Int32)) (110 : Int32)) ((48 : Int32) + (rmJ y (4 : Int32)))) ((48 : Int32) + (rmJ (y / (4 : Int32)) (5 : Int32)))) ((48 : Int32) + (rmJ (y / (32 : Int32)) (9 : Int32)))))) (c_L_call_0 l hl0 D cy t xa sa sb tr na ka q4 ((48 : Int32) + (rmJ (y / (32 : Int32)) (9 : Int32))) (0 : Int32) (0 : Int32)) hCF gw_L_call.more rfl hq_L_call ⟨Nat.le_of_ble_eq_true rfl, Nat.le_of_ble_eq_true rfl⟩ hG hF hP hD hS hA h_Sp rfl hl.1 rfl (Nat.le_of_ble_eq_true rfl) dL_act_429 ⟨by show _ ≤ 20; omega, by show _ ≤ 120; omega⟩ (fun H locs hP hD hS => ?_)
  have G5 := (ag_append (x1 := ((48 : Int32) + (rmJ (y / (32 : Int32)) (9 : Int32)))) G4).1
  have q5 : OKz (txA (txA (txA (txA (txA (tx0a z) (85 : Int32)) (110 : Int32)) ((48 : Int32) + (rmJ y (4 : Int32)))) ((48 : Int32) + (rmJ (y / (4 : Int32)) (5 : Int32)))) ((48 : Int32) + (rmJ (y / (32 : Int32)) (9 : Int32)))) := ⟨_, _, by omega, by omega, G5⟩
  refine lv_iadd hx hb dL_act_432 ?_
  refine lv_iload_n hx hb dL_act_433 rfl (lv_at hl 6 rfl) ?_
  refine lv_bipush (v := (64 : Int32)) hx hb dL_act_434 (by decide) ?_
  refine lv_irem hx hb dL_act_436 (by decide) ?_
  refine lv_if_ne (tgt := 451) hx hb dL_act_437 (by decide) (fun c2 => ?_) (fun c2 => ?_)
  · have aq : actQ z 18 u9 v9 h9 y = (tv5 z y + 0, tx5 z y) := if_neg c2
    refine lv_iconst (v := (0 : Int32)) hx hb dL_act_451 (by decide) ?_
    refine lv_iadd hx hb dL_act_452 ?_
    exact hw_iret hx hb hr hlocks hP hS (by omega) (by omega) dL_act_453 (by rw [aq] <;> rfl) (by rw [aq] <;> rfl)
  · have aq : actQ z 18 u9 v9 h9 y = (tv5 z y + kV (callP (tx5 z y) 1 0 0 0), (callP (tx5 z y) 1 0 0 0).2.2) := if_pos c2
    refine lv_aload_n hx hb dL_act_440 rfl (lv_at hl 4 rfl) ?_
    refine lv_iconst (v := (1 : Int32)) hx hb dL_act_441 (by decide) ?_
    refine lv_iconst (v := (0 : Int32)) hx hb dL_act_442 (by decide) ?_
    refine lv_iconst (v := (0 : Int32)) hx hb dL_act_443 (by decide) ?_
    refine lv_iconst (v := (0 : Int32)) hx hb dL_act_444 (by decide) ?_
    refine hwS (A0 := A) (As := [.ref (xa 0), .int (1 : Int32), .int (0 : Int32), .int (0 : Int32), .int (0 : Int32)]) (rest := [.int (((((kV (callP (tx0a z) 0 (85 : Int32) 0 0)) + (kV (callP (txA (tx0a z) (85 : Int32)) 0 (110 : Int32) 0 0))) + (kV (callP (txA (txA (tx0a z) (85 : Int32)) (110 : Int32)) 0 ((48 : Int32) + (rmJ y (4 : Int32))) 0 0))) + (kV (callP (txA (txA (txA (tx0a z) (85 : Int32)) (110 : Int32)) ((48 : Int32) + (rmJ y (4 : Int32)))) 0 ((48 : Int32) + (rmJ (y / (4 : Int32)) (5 : Int32))) 0 0))) + (kV (callP (txA (txA (txA (txA (tx0a z) (85 : Int32)) (110 : Int32)) ((48 : Int32) + (rmJ y (4 : Int32)))) ((48 : Int32) + (rmJ (y / (4 : Int32)) (5 : Int32)))) 0 ((48 : Int32) + (rmJ (y / (32 : Int32)) (9 : Int32))) 0 0)))]) (W1 := (wSp cy xa sa sb tr na ka (txA (txA (txA (txA (txA (tx0a z) (85 : Int32)) (110 : Int32)) ((48 : Int32) + (rmJ y (4 : Int32)))) ((48 : Int32) + (rmJ (y / (4 : Int32)) (5 : Int32)))) ((48 : Int32) + (rmJ (y / (32 : Int32)) (9 : Int32)))))) (W2 := (wSp cy xa sa sb tr na ka (callP (tx5 z y) 1 0 0 0).2.2)) (c_L_call_1 l hl0 D cy t xa sa sb tr na ka q5 (0 : Int32) (0 : Int32) (0 : Int32)) hCF gw_L_call.more rfl hq_L_call ⟨Nat.le_of_ble_eq_true rfl, Nat.le_of_ble_eq_true rfl⟩ hG hF hP hD hS hA h_Sp rfl hl.1 rfl (Nat.le_of_ble_eq_true rfl) dL_act_445 ⟨by show _ ≤ 20; omega, by show _ ≤ 120; omega⟩ (fun H locs hP hD hS => ?_)
    refine lv_goto (tgt := 452) hx hb dL_act_448 (by decide) ?_
    refine lv_iadd hx hb dL_act_452 ?_
    exact hw_iret hx hb hr hlocks hP hS (by omega) (by omega) dL_act_453 (by rw [aq] <;> rfl) (by rw [aq] <;> rfl)
set_option maxRecDepth 20000 in
theorem w_act19 {p : Program} {l : Launch} {e : Env} {s : State} {m : MethodId} {below : List Frame} {meth : Method} {c : Code} {D : va_G} {cy : Nat → ClassId} {t : FxA} {A : Nat → Prop} {xa sa sb tr na : Nat → Nat} {ka : Nat → Nat → Nat} {z : SpT} {x y : Int32} (C0 : LR p l s m meth c ([.ref (xa 0), .int x, .int y] : List Value).toArray cL_act 7 wc_act (some .int) D cy t A) {u9 v9 h9 : Int32} (oz : OKz z) {cells slots : Nat} (hc : cells + 7 ≤ 20) (hs : slots + 42 ≤ 120) {H : Heap} {locs : List Loc} {ls : Array Slot} (hl : lv_has ls 7 [(6, .int h9), (5, .int v9), (4, .int u9), (3, .int (uN (sU (pN z)))), (0, .ref (xa 0)), (1, .int x), (2, .int y)]) (hP : va_P D vwCl (wSp cy xa sa sb tr na ka z) H) (hD : va_D A (wSp cy xa sa sb tr na ka z)) (hS : va_S A s.heap H locs) : @Wx p l e ({ frames := 10, cells := 20, slots := 120, locals := 300 } : Room) s m ([.ref (xa 0), .int x, .int y] : List Value).toArray below meth c H locs cells slots (MQ below (va_Qi (fun r (_ : Unit) => r = (actQ z 19 u9 v9 h9 y).1) (fun _ t => va_P D vwCl (wSp cy xa sa sb tr na ka (actQ z 19 u9 v9 h9 y).2) t.heap) A) ([.ref (xa 0), .int x, .int y] : List Value).toArray s 20 120 A) (F0 m 454 ls []) := by
  obtain ⟨hx, hb, hr, hlocks, hts, hown, hCF, hG, hF, hA, hl0⟩ := C0
  refine lv_aload_n hx hb dL_act_454 rfl (lv_at hl 4 rfl) ?_
  refine lv_bipush (v := (13 : Int32)) hx hb dL_act_455 (by decide) ?_
  refine lv_iload hx hb dL_act_457 (lv_at hl 2 rfl) ?_
  refine lv_iload hx hb dL_act_459 (lv_at hl 1 rfl) ?_
  refine lv_iload_n hx hb dL_act_461 rfl (lv_at hl 6 rfl) ?_
  refine lv_sipush (v := (256 : Int32)) hx hb dL_act_462 (by decide) ?_
  refine lv_idiv hx hb dL_act_465 (by decide) ?_
  refine lv_iconst (v := (3 : Int32)) hx hb dL_act_466 (by decide) ?_
  refine lv_irem hx hb dL_act_467 (by decide) ?_
  refine hwS (A0 := A) (As := [.ref (xa 0), .int (13 : Int32), .int u9, .int v9, .int (rmJ (y / (256 : Int32)) (3 : Int32))]) (rest := []) (W1 := (wSp cy xa sa sb tr na ka z)) (W2 := (wSp cy xa sa sb tr na ka (callP z 13 u9 v9 (rmJ (y / (256 : Int32)) (3 : Int32))).2.2)) (c_L_call_13 l hl0 D cy t xa sa sb tr na ka oz u9 v9 (rmJ (y / (256 : Int32)) (3 : Int32))) hCF gw_L_call.more rfl hq_L_call ⟨Nat.le_of_ble_eq_true rfl, Nat.le_of_ble_eq_true rfl⟩ hG hF hP hD hS hA h_Sp rfl hl.1 rfl (Nat.le_of_ble_eq_true rfl) dL_act_468 ⟨by show _ ≤ 20; omega, by show _ ≤ 120; omega⟩ (fun H locs hP hD hS => ?_)
  exact hw_iret hx hb hr hlocks hP hS (by omega) (by omega) dL_act_471 rfl rfl
