section NRET
variable {p : Program} {l : Launch} {e : Env} {R : Room} {s : State} {m : MethodId} {args : Array Value} {below : List Frame} {meth : Method} {c : Code} {pc : Nat} {ls : Array Slot} {cc : ByteArray}
theorem ro_nret {v x : Int32} {ty : FieldType} (hx : p.tables.exec = Jvm.exec) (hb : c.code = cc) (hr : meth.sig.returnType = some ty) (hlocks : meth.locks = false) (hn : narrow ty (.int x) = .int x) (hdg : decode cc pc = .ok (.ireturn, 1)) (hv : x = v) : W p l e R s m args below meth c s.heap [] 0 0 (MQ below (vp_Si (fun r => r = v)) args s 0 0 (fun _ => False)) (F0 m pc ls [.int x]) :=
  W.zret hx hb hr hn (fun t ht _ => ⟨x, rfl, hv, ht⟩) (fun _ h => by cases h) hdg hlocks
end NRET
theorem hd_pChk : yJ3_checkIndex_8e157.cls ≠ "java/lang/invoke/MethodHandle" ∧ yJ3_checkIndex_8e157.cls ≠ "java/lang/invoke/VarHandle" ∧ (parseMethodDescriptor yJ3_checkIndex_8e157.desc).map (fun d => d.parameters.length) = some 3 := by decide +kernel
theorem hd_sChk : yJ0_checkIndex_df160.cls ≠ "java/lang/invoke/MethodHandle" ∧ yJ0_checkIndex_df160.cls ≠ "java/lang/invoke/VarHandle" ∧ (parseMethodDescriptor yJ0_checkIndex_df160.desc).map (fun d => d.parameters.length) = some 2 := by decide +kernel
theorem hd_lAt : yJ1_charAt_3b067.cls ≠ "java/lang/invoke/MethodHandle" ∧ yJ1_charAt_3b067.cls ≠ "java/lang/invoke/VarHandle" ∧ (parseMethodDescriptor yJ1_charAt_3b067.desc).map (fun d => d.parameters.length) = some 2 := by decide +kernel
theorem hd_sAt : yJ0_charAt_5068e.cls = RJ0 ∧ yJ0_charAt_5068e.cls ≠ "java/lang/invoke/MethodHandle" ∧ yJ0_charAt_5068e.cls ≠ "java/lang/invoke/VarHandle" ∧ (parseMethodDescriptor yJ0_charAt_5068e.desc).map (fun d => d.parameters.length) = some 1 := by decide +kernel
theorem hd_sLen : yJ0_length_8abf5.cls = RJ0 ∧ yJ0_length_8abf5.cls ≠ "java/lang/invoke/MethodHandle" ∧ yJ0_length_8abf5.cls ≠ "java/lang/invoke/VarHandle" ∧ (parseMethodDescriptor yJ0_length_8abf5.desc).map (fun d => d.parameters.length) = some 0 := by decide +kernel
theorem hd_sEmpty : yJ0_isEmpty_aae02.cls = RJ0 ∧ yJ0_isEmpty_aae02.cls ≠ "java/lang/invoke/MethodHandle" ∧ yJ0_isEmpty_aae02.cls ≠ "java/lang/invoke/VarHandle" ∧ (parseMethodDescriptor yJ0_isEmpty_aae02.desc).map (fun d => d.parameters.length) = some 0 := by decide +kernel
/-- the String constant i: its sign at k -/
def sCh (i : Nat) (k : Int32) : Int32 := (fxByt.getD i []).getD k.toNatClampNeg 0 &&& 255
def sLen (i : Nat) : Int32 := Int32.ofNat (fxLen.getD i 0)
def sEmpty (i : Nat) : Int32 := if sLen i = 0 then 1 else 0
theorem sLen_shr : ∀ i, i < 7 → sLen i >>> ((0 : Int32) &&& 31) = sLen i := by decide +kernel
theorem sLen_toInt : ∀ i, i < 7 → (sLen i).toInt = (fxLen.getD i 0 : Nat) := by decide +kernel
theorem sLen_le : ∀ i, i < 7 → (sLen i).toInt ≤ 3 := by decide +kernel
set_option maxRecDepth 20000 in
theorem c_pChk (l : Launch) (D : va_G) (cy : Nat → ClassId) (t : FxA) (A : Nat → Prop) (i n : Int32) (vv : Value) (hv : vv = .null ∨ ∃ q, vv = .ref q) (h0 : ¬ i < 0) (h1 : i < n) : ROf l D cy t A yJ3_checkIndex_8e157 wsJ3_checkIndex_8e157 ({ frames := 0, cells := 0, slots := 0, locals := 0 } : Room) [] [.int i, .int n, vv] i := by
  rcases hv with rfl | ⟨q, rfl⟩
  · refine ROf.body (by decide) rfl (Nat.le_of_ble_eq_true rfl) ?_
    intro p e s m below meth c hx hb hml hr hts hown hlocks hP hG hF ls hl
    have hl : lv_has ls 3 [(0, .int i), (1, .int n), (2, .null)] := hl
    refine lv_iload_n hx hb dJ3_checkIndex_8e157_0 rfl (lv_at hl 0 rfl) ?_
    refine lv_if_lt (tgt := 9) hx hb dJ3_checkIndex_8e157_1 (by decide) (fun c => absurd c h0) (fun _ => ?_)
    refine lv_iload_n hx hb dJ3_checkIndex_8e157_4 rfl (lv_at hl 0 rfl) ?_
    refine lv_iload_n hx hb dJ3_checkIndex_8e157_5 rfl (lv_at hl 1 rfl) ?_
    refine lv_icmp_lt (tgt := 16) hx hb dJ3_checkIndex_8e157_6 (by decide) (fun _ => ?_) (fun c => absurd h1 c)
    refine lv_iload_n hx hb dJ3_checkIndex_8e157_16 rfl (lv_at hl 0 rfl) ?_
    exact ro_iret hx hb hr hlocks dJ3_checkIndex_8e157_17 rfl
  · refine ROf.body (by decide) rfl (Nat.le_of_ble_eq_true rfl) ?_
    intro p e s m below meth c hx hb hml hr hts hown hlocks hP hG hF ls hl
    have hl : lv_has ls 3 [(0, .int i), (1, .int n), (2, .ref q)] := hl
    refine lv_iload_n hx hb dJ3_checkIndex_8e157_0 rfl (lv_at hl 0 rfl) ?_
    refine lv_if_lt (tgt := 9) hx hb dJ3_checkIndex_8e157_1 (by decide) (fun c => absurd c h0) (fun _ => ?_)
    refine lv_iload_n hx hb dJ3_checkIndex_8e157_4 rfl (lv_at hl 0 rfl) ?_
    refine lv_iload_n hx hb dJ3_checkIndex_8e157_5 rfl (lv_at hl 1 rfl) ?_
    refine lv_icmp_lt (tgt := 16) hx hb dJ3_checkIndex_8e157_6 (by decide) (fun _ => ?_) (fun c => absurd h1 c)
    refine lv_iload_n hx hb dJ3_checkIndex_8e157_16 rfl (lv_at hl 0 rfl) ?_
    exact ro_iret hx hb hr hlocks dJ3_checkIndex_8e157_17 rfl
set_option maxRecDepth 20000 in
theorem c_sChk (l : Launch) (D : va_G) (cy : Nat → ClassId) (t : FxA) (A : Nat → Prop) (i n : Int32) (h0 : ¬ i < 0) (h1 : i < n) : ROv l D cy t A yJ0_checkIndex_df160 wsJ0_checkIndex_df160 ({ frames := 1, cells := 0, slots := 0, locals := 22 } : Room) [.int i, .int n] := by
  refine ROv.body (by decide) rfl (Nat.le_of_ble_eq_true rfl) ?_
  intro p e s m below meth c hx hb hml hr hts hown hlocks hG hF ls hl
  have hl : lv_has ls 2 [(0, .int i), (1, .int n)] := hl
  have hCF : CallFix p m c cJ0_checkIndex_df160 2 s ([.int i, .int n] : List Value).toArray wsJ0_checkIndex_df160 RJ0 := ⟨hx, hb, hml, hown, hts⟩
  have hS : va_S A s.heap s.heap [] := va_S.rf
  have kF := hts (Cond.fieldLink RJ0 1053 "jdk/internal/util/Preconditions" "SIOOBE_FORMATTER" "Ljava/util/function/BiFunction;") (List.mem_of_getElem? (i := 1) rfl)
  refine lv_iload_n hx hb dJ0_checkIndex_df160_0 rfl (lv_at hl 0 rfl) ?_
  refine lv_iload_n hx hb dJ0_checkIndex_df160_1 rfl (lv_at hl 1 rfl) ?_
  have go : ∀ vv : Value, (vv = .null ∨ ∃ q, vv = .ref q) → va_Z "jdk/internal/util/Preconditions" "SIOOBE_FORMATTER" "Ljava/util/function/BiFunction;" vv A s s.heap → W p l e ({ frames := 1, cells := 0, slots := 0, locals := 22 } : Room) s m ([.int i, .int n] : List Value).toArray below meth c s.heap [] 0 0 (MQ below (fun _ st o t => o = .returned none ∧ t.heap = st.heap) ([.int i, .int n] : List Value).toArray s 0 0 (fun _ => False)) (F0 m 2 ls [.int n, .int i]) := by
    intro vv hv hz
    refine va_gets hx hb hz hS hown kF (fun _ h9 => h9) dJ0_checkIndex_df160_2 ?_
    refine rfA (wc := ([] : va_W)) (As := [.int i, .int n, vv]) (rest := []) (c_pChk l D cy t A i n vv hv h0 h1) hCF gJ0_checkIndex_df160_J3_checkIndex_8e157 rfl hd_pChk ⟨rfl, rfl, Nat.le_of_ble_eq_true rfl, Nat.le_of_ble_eq_true rfl⟩ hG hF hS va_P_nil rfl hl.1 rfl (Nat.le_of_ble_eq_true rfl) dJ0_checkIndex_df160_5 ⟨Nat.le_refl _, Nat.le_refl _⟩ ?_
    refine lv_pop hx hb dJ0_checkIndex_df160_8 rfl ?_
    exact ro_vret hx hb hr hlocks dJ0_checkIndex_df160_9
  rcases hF.2.2.2.2.1 with hz | ⟨q, hz⟩
  · exact go _ (Or.inl rfl) hz
  · exact go _ (Or.inr ⟨q, rfl⟩) hz
set_option maxRecDepth 20000 in
theorem c_lAt (l : Launch) (D : va_G) (cy : Nat → ClassId) (t : FxA) (A : Nat → Prop) (i : Nat) (k : Int32) (hi : i < 7) (h0 : ¬ k < 0) (h1 : k < sLen i) : ROf l D cy t A yJ1_charAt_3b067 wsJ1_charAt_3b067 ({ frames := 2, cells := 0, slots := 0, locals := 43 } : Room) [] [.ref (t.2.2.2 i), .int k] (sCh i k) := by
  refine ROf.body (by decide) rfl (Nat.le_of_ble_eq_true rfl) ?_
  intro p e s m below meth c hx hb hml hr hts hown hlocks hP hG hF ls hl
  have hl : lv_has ls 2 [(0, .ref (t.2.2.2 i)), (1, .int k)] := hl
  have hCF : CallFix p m c cJ1_charAt_3b067 2 s ([.ref (t.2.2.2 i), .int k] : List Value).toArray wsJ1_charAt_3b067 RJ1 := ⟨hx, hb, hml, hown, hts⟩
  have hS : va_S A s.heap s.heap [] := va_S.rf
  have hT := (hF.2.2.1.1.1 i hi).2.2.2
  have hin : vp_in k (fxLen.getD i 0) := by
    rw [i32_lt] at h1
    rw [i32_lt, i32_0] at h0
    rw [sLen_toInt i hi] at h1
    exact bd_of (by omega) (by omega)
  refine lv_iload_n hx hb dJ1_charAt_3b067_0 rfl (lv_at hl 1 rfl) ?_
  refine lv_aload_n hx hb dJ1_charAt_3b067_1 rfl (lv_at hl 0 rfl) ?_
  refine va_tlen hx hb hT hS (v := sLen i) rfl dJ1_charAt_3b067_2 ?_
  refine rvA (As := [.int k, .int (sLen i)]) (rest := []) (c_sChk l D cy t A k (sLen i) h0 h1) hCF gJ1_charAt_3b067_J0_checkIndex_df160 rfl hd_sChk ⟨rfl, rfl, Nat.le_of_ble_eq_true rfl, Nat.le_of_ble_eq_true rfl⟩ hG hF hS rfl hl.1 rfl (Nat.le_of_ble_eq_true rfl) dJ1_charAt_3b067_3 ⟨Nat.le_refl _, Nat.le_refl _⟩ ?_
  refine lv_aload_n hx hb dJ1_charAt_3b067_6 rfl (lv_at hl 0 rfl) ?_
  refine lv_iload_n hx hb dJ1_charAt_3b067_7 rfl (lv_at hl 1 rfl) ?_
  refine va_tb hx hb hT hS hin rfl dJ1_charAt_3b067_8 ?_
  refine lv_sipush (v := (255 : Int32)) hx hb dJ1_charAt_3b067_9 (by decide) ?_
  refine lv_iand hx hb dJ1_charAt_3b067_12 ?_
  refine lv_i2c (v := sCh i k) hx hb dJ1_charAt_3b067_13 (sc_c2 _) ?_
  exact ro_nret hx hb hr hlocks (sc_nar _) dJ1_charAt_3b067_14 rfl
set_option maxRecDepth 20000 in
theorem c_sLat (l : Launch) (D : va_G) (cy : Nat → ClassId) (t : FxA) (A : Nat → Prop) (i : Nat) (hi : i < 7) : ROf l D cy t A yJ0_isLatin1_aae02 wsJ0_isLatin1_aae02 ({ frames := 0, cells := 0, slots := 0, locals := 0 } : Room) [] [.ref (t.2.2.1 i)] 1 := by
  refine ROf.body (by decide) rfl (Nat.le_of_ble_eq_true rfl) ?_
  intro p e s m below meth c hx hb hml hr hts hown hlocks hP hG hF ls hl
  have hl : lv_has ls 1 [(0, .ref (t.2.2.1 i))] := hl
  have hS : va_S A s.heap s.heap [] := va_S.rf
  have k1 := hts (Cond.fieldLink RJ0 38 "java/lang/String" "COMPACT_STRINGS" "Z") (List.mem_of_getElem? (i := 1) rfl)
  have k2 := hts (Cond.fieldLink RJ0 15 "java/lang/String" "coder" "B") (List.mem_of_getElem? (i := 2) rfl)
  refine va_gets hx hb hF.2.2.2.1 hS hown k1 (fun _ h9 => h9) dJ0_isLatin1_aae02_0 ?_
  refine lv_if_eq (tgt := 17) hx hb dJ0_isLatin1_aae02_3 (by decide) (fun c => absurd c (by decide)) (fun _ => ?_)
  refine lv_aload_n hx hb dJ0_isLatin1_aae02_6 rfl (lv_at hl 0 rfl) ?_
  refine vk_getf hx hb (hF.2.2.1.1.1 i hi).2.1 hS hown k2 (fun _ h9 => h9) dJ0_isLatin1_aae02_7 ?_
  refine lv_if_ne (tgt := 17) hx hb dJ0_isLatin1_aae02_10 (by decide) (fun c => absurd rfl c) (fun _ => ?_)
  refine lv_iconst (v := (1 : Int32)) hx hb dJ0_isLatin1_aae02_13 (by decide) ?_
  refine lv_goto (tgt := 18) hx hb dJ0_isLatin1_aae02_14 (by decide) ?_
  exact ro_nret hx hb hr hlocks rfl dJ0_isLatin1_aae02_18 rfl
set_option maxRecDepth 20000 in
theorem c_sCoder (l : Launch) (D : va_G) (cy : Nat → ClassId) (t : FxA) (A : Nat → Prop) (i : Nat) (hi : i < 7) : ROf l D cy t A yJ0_coder_7d493 wsJ0_coder_7d493 ({ frames := 0, cells := 0, slots := 0, locals := 0 } : Room) [] [.ref (t.2.2.1 i)] 0 := by
  refine ROf.body (by decide) rfl (Nat.le_of_ble_eq_true rfl) ?_
  intro p e s m below meth c hx hb hml hr hts hown hlocks hP hG hF ls hl
  have hl : lv_has ls 1 [(0, .ref (t.2.2.1 i))] := hl
  have hS : va_S A s.heap s.heap [] := va_S.rf
  have k1 := hts (Cond.fieldLink RJ0 38 "java/lang/String" "COMPACT_STRINGS" "Z") (List.mem_of_getElem? (i := 1) rfl)
  have k2 := hts (Cond.fieldLink RJ0 15 "java/lang/String" "coder" "B") (List.mem_of_getElem? (i := 2) rfl)
  refine va_gets hx hb hF.2.2.2.1 hS hown k1 (fun _ h9 => h9) dJ0_coder_7d493_0 ?_
  refine lv_if_eq (tgt := 13) hx hb dJ0_coder_7d493_3 (by decide) (fun c => absurd c (by decide)) (fun _ => ?_)
  refine lv_aload_n hx hb dJ0_coder_7d493_6 rfl (lv_at hl 0 rfl) ?_
  refine vk_getf hx hb (hF.2.2.1.1.1 i hi).2.1 hS hown k2 (fun _ h9 => h9) dJ0_coder_7d493_7 ?_
  refine lv_goto (tgt := 14) hx hb dJ0_coder_7d493_10 (by decide) ?_
  exact ro_nret hx hb hr hlocks rfl dJ0_coder_7d493_14 rfl
set_option maxRecDepth 20000 in
theorem c_sEmpty (l : Launch) (D : va_G) (cy : Nat → ClassId) (t : FxA) (A : Nat → Prop) (i : Nat) (hi : i < 7) : ROf l D cy t A yJ0_isEmpty_aae02 wsJ0_isEmpty_aae02 ({ frames := 0, cells := 0, slots := 0, locals := 0 } : Room) [] [.ref (t.2.2.1 i)] (sEmpty i) := by
  refine ROf.body (by decide) rfl (Nat.le_of_ble_eq_true rfl) ?_
  intro p e s m below meth c hx hb hml hr hts hown hlocks hP hG hF ls hl
  have hl : lv_has ls 1 [(0, .ref (t.2.2.1 i))] := hl
  have hS : va_S A s.heap s.heap [] := va_S.rf
  have k1 := hts (Cond.fieldLink RJ0 9 "java/lang/String" "value" "[B") (List.mem_of_getElem? (i := 1) rfl)
  refine lv_aload_n hx hb dJ0_isEmpty_aae02_0 rfl (lv_at hl 0 rfl) ?_
  refine vk_getf hx hb (hF.2.2.1.1.1 i hi).2.2.1 hS hown k1 (fun _ h9 => h9) dJ0_isEmpty_aae02_1 ?_
  refine va_tlen hx hb (hF.2.2.1.1.1 i hi).2.2.2 hS (v := sLen i) rfl dJ0_isEmpty_aae02_4 ?_
  refine lv_if_ne (tgt := 12) hx hb dJ0_isEmpty_aae02_5 (by decide) (fun c => ?_) (fun c => ?_)
  · refine lv_iconst (v := (0 : Int32)) hx hb dJ0_isEmpty_aae02_12 (by decide) ?_
    exact ro_nret hx hb hr hlocks rfl dJ0_isEmpty_aae02_13 (by rw [sEmpty, if_neg c])
  · refine lv_iconst (v := (1 : Int32)) hx hb dJ0_isEmpty_aae02_8 (by decide) ?_
    refine lv_goto (tgt := 13) hx hb dJ0_isEmpty_aae02_9 (by decide) ?_
    exact ro_nret hx hb hr hlocks rfl dJ0_isEmpty_aae02_13 (by rw [sEmpty, if_pos c])
set_option maxRecDepth 20000 in
theorem c_sLen (l : Launch) (D : va_G) (cy : Nat → ClassId) (t : FxA) (A : Nat → Prop) (i : Nat) (hi : i < 7) : ROf l D cy t A yJ0_length_8abf5 wsJ0_length_8abf5 ({ frames := 1, cells := 0, slots := 0, locals := 20 } : Room) [] [.ref (t.2.2.1 i)] (sLen i) := by
  refine ROf.body (by decide) rfl (Nat.le_of_ble_eq_true rfl) ?_
  intro p e s m below meth c hx hb hml hr hts hown hlocks hP hG hF ls hl
  have hl : lv_has ls 1 [(0, .ref (t.2.2.1 i))] := hl
  have hCF : CallFix p m c cJ0_length_8abf5 1 s ([.ref (t.2.2.1 i)] : List Value).toArray wsJ0_length_8abf5 RJ0 := ⟨hx, hb, hml, hown, hts⟩
  have hS : va_S A s.heap s.heap [] := va_S.rf
  have k1 := hts (Cond.fieldLink RJ0 9 "java/lang/String" "value" "[B") (List.mem_of_getElem? (i := 1) rfl)
  refine lv_aload_n hx hb dJ0_length_8abf5_0 rfl (lv_at hl 0 rfl) ?_
  refine vk_getf hx hb (hF.2.2.1.1.1 i hi).2.2.1 hS hown k1 (fun _ h9 => h9) dJ0_length_8abf5_1 ?_
  refine va_tlen hx hb (hF.2.2.1.1.1 i hi).2.2.2 hS (v := sLen i) rfl dJ0_length_8abf5_4 ?_
  refine lv_aload_n hx hb dJ0_length_8abf5_5 rfl (lv_at hl 0 rfl) ?_
  refine rfK (C := RJ0) (wc := ([] : va_W)) (As := []) (rest := [.int (sLen i)]) (c_sCoder l D cy t A i hi) hCF gJ0_length_8abf5_J0_coder_7d493 rfl (by decide +kernel) ⟨rfl, rfl, Nat.le_of_ble_eq_true rfl, Nat.le_of_ble_eq_true rfl⟩ hG hF hS va_P_nil (vk_recv hF.2.2.1.1 hi hS) rfl hl.1 rfl (Nat.le_of_ble_eq_true rfl) dJ0_length_8abf5_6 ⟨Nat.le_refl _, Nat.le_refl _⟩ ?_
  refine lv_ishr hx hb dJ0_length_8abf5_9 ?_
  exact ro_nret hx hb hr hlocks rfl dJ0_length_8abf5_10 (sLen_shr i hi)
set_option maxRecDepth 20000 in
theorem c_sAt (l : Launch) (D : va_G) (cy : Nat → ClassId) (t : FxA) (A : Nat → Prop) (i : Nat) (k : Int32) (hi : i < 7) (h0 : ¬ k < 0) (h1 : k < sLen i) : ROf l D cy t A yJ0_charAt_5068e wsJ0_charAt_5068e ({ frames := 3, cells := 0, slots := 0, locals := 64 } : Room) [] [.ref (t.2.2.1 i), .int k] (sCh i k) := by
  refine ROf.body (by decide) rfl (Nat.le_of_ble_eq_true rfl) ?_
  intro p e s m below meth c hx hb hml hr hts hown hlocks hP hG hF ls hl
  have hl : lv_has ls 2 [(0, .ref (t.2.2.1 i)), (1, .int k)] := hl
  have hCF : CallFix p m c cJ0_charAt_5068e 2 s ([.ref (t.2.2.1 i), .int k] : List Value).toArray wsJ0_charAt_5068e RJ0 := ⟨hx, hb, hml, hown, hts⟩
  have hS : va_S A s.heap s.heap [] := va_S.rf
  have k1 := hts (Cond.fieldLink RJ0 9 "java/lang/String" "value" "[B") (List.mem_of_getElem? (i := 1) rfl)
  refine lv_aload_n hx hb dJ0_charAt_5068e_0 rfl (lv_at hl 0 rfl) ?_
  refine rfK (C := RJ0) (wc := ([] : va_W)) (As := []) (rest := []) (c_sLat l D cy t A i hi) hCF gJ0_charAt_5068e_J0_isLatin1_aae02 rfl (by decide +kernel) ⟨rfl, rfl, Nat.le_of_ble_eq_true rfl, Nat.le_of_ble_eq_true rfl⟩ hG hF hS va_P_nil (vk_recv hF.2.2.1.1 hi hS) rfl hl.1 rfl (Nat.le_of_ble_eq_true rfl) dJ0_charAt_5068e_1 ⟨Nat.le_refl _, Nat.le_refl _⟩ ?_
  refine lv_if_eq (tgt := 16) hx hb dJ0_charAt_5068e_4 (by decide) (fun c => absurd c (by decide)) (fun _ => ?_)
  refine lv_aload_n hx hb dJ0_charAt_5068e_7 rfl (lv_at hl 0 rfl) ?_
  refine vk_getf hx hb (hF.2.2.1.1.1 i hi).2.2.1 hS hown k1 (fun _ h9 => h9) dJ0_charAt_5068e_8 ?_
  refine lv_iload_n hx hb dJ0_charAt_5068e_11 rfl (lv_at hl 1 rfl) ?_
  refine rfA (wc := ([] : va_W)) (As := [.ref (t.2.2.2 i), .int k]) (rest := []) (c_lAt l D cy t A i k hi h0 h1) hCF gJ0_charAt_5068e_J1_charAt_3b067 rfl hd_lAt ⟨rfl, rfl, Nat.le_of_ble_eq_true rfl, Nat.le_of_ble_eq_true rfl⟩ hG hF hS va_P_nil rfl hl.1 rfl (Nat.le_of_ble_eq_true rfl) dJ0_charAt_5068e_12 ⟨Nat.le_refl _, Nat.le_refl _⟩ ?_
  exact ro_nret hx hb hr hlocks (sc_nar _) dJ0_charAt_5068e_15 rfl
