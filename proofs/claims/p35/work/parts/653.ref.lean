/-! p35: refuses, on -/
set_option maxRecDepth 20000 in
theorem w_ref10 {p : Program} {l : Launch} {e : Env} {s : State} {m : MethodId} {below : List Frame} {meth : Method} {c : Code} {D : va_G} {cy : Nat → ClassId} {t : FxA} {A : Nat → Prop} {Q : State → Prop} {xa sa sb tr na : Nat → Nat} {ka : Nat → Nat → Nat} {z : SpT} {x fr : Int32} (C0 : LR p l s m meth c ([.ref (xa 0), .int x] : List Value).toArray cL_refuses 8 wc_refuses (some .boolean) D cy t A) (hx0 : 0 ≤ x.toInt) (h0 : OKz z) {T : Int} (g : SG T (pN z)) (hu : ¬ m_X7_has (sU (pN z)) (rmJ x (uN (sU (pN z)))) = 0) (nz : ¬ (uN (sU (pN z))) = 0) (hfr : (fr = 1 ∧ (uP (sU (pN z)) (rmJ x (uN (sU (pN z)))).toNatClampNeg) = (uO (sU (pN z)) (rmJ x (uN (sU (pN z)))).toNatClampNeg)) ∨ (fr = 0 ∧ ¬ (uP (sU (pN z)) (rmJ x (uN (sU (pN z)))).toNatClampNeg) = (uO (sU (pN z)) (rmJ x (uN (sU (pN z)))).toNatClampNeg))) (hq7 : iv 0 7 (uQ (sU (pN z)) (rmJ x (uN (sU (pN z)))).toNatClampNeg)) {cells slots : Nat} (hc : cells + 1 ≤ 100) (hs : slots + 6 ≤ 600) {H : Heap} {locs : List Loc} {ls : Array Slot} {z1 : SpT} (hl : lv_has ls 8 [(7, .int fr), (6, .int (uQ (sU (pN z)) (rmJ x (uN (sU (pN z)))).toNatClampNeg)), (5, .int (uO (sU (pN z)) (rmJ x (uN (sU (pN z)))).toNatClampNeg)), (4, .int (rmJ x (uN (sU (pN z))))), (3, .int (1 : Int32)), (2, .int (uN (sU (pN z)))), (0, .ref (xa 0)), (1, .int x)]) (o1 : OKz z1 ∧ VIS z z1) (hP : va_P D vwCl (wSp cy xa sa sb tr na ka z1) H) (hD : va_D A (wSp cy xa sa sb tr na ka z1)) (hS : va_S A s.heap H locs)
    (kk : ∀ (ls : Array Slot) (H : Heap) (locs : List Loc) (z2 : SpT), lv_has ls 8 [(7, .int fr), (6, .int (uQ (sU (pN z)) (rmJ x (uN (sU (pN z)))).toNatClampNeg)), (5, .int (uO (sU (pN z)) (rmJ x (uN (sU (pN z)))).toNatClampNeg)), (4, .int (rmJ x (uN (sU (pN z))))), (3, .int (1 : Int32)), (2, .int (uN (sU (pN z)))), (0, .ref (xa 0)), (1, .int x)] → (OKz z2 ∧ VIS z z2) → va_P D vwCl (wSp cy xa sa sb tr na ka z2) H → va_D A (wSp cy xa sa sb tr na ka z2) → va_S A s.heap H locs → @Wx p l e ({ frames := 10, cells := 100, slots := 600, locals := 300 } : Room) s m ([.ref (xa 0), .int x] : List Value).toArray below meth c H locs (cells + 1) (slots + 6) Q (F0 m 997 ls [])) : @Wx p l e ({ frames := 10, cells := 100, slots := 600, locals := 300 } : Room) s m ([.ref (xa 0), .int x] : List Value).toArray below meth c H locs cells slots Q (F0 m 969 ls []) := by
  obtain ⟨hx, hb, hr, hlocks, hts, hown, hCF, hG, hF, hA, hl0⟩ := C0
  have u16 := h0.st.1
  have nh : m_X7_has (sU (pN z)) (uN (sU (pN z))) = 0 := no_has (Or.inr (Int.le_refl _))
  have hlt : (rmJ x (uN (sU (pN z)))).toNatClampNeg < 16 := has_lt hu u16
  refine lv_iload hx hb dL_refuses_969 (lv_at hl 1 rfl) ?_
  refine lv_iload_n hx hb dL_refuses_971 rfl (lv_at hl 7 rfl) ?_
  refine lv_iconst (v := (3 : Int32)) hx hb dL_refuses_972 (by decide) ?_
  refine lv_irem hx hb dL_refuses_973 (by decide) ?_
  refine lv_ishr hx hb dL_refuses_974 ?_
  refine lv_iconst (v := (1 : Int32)) hx hb dL_refuses_975 (by decide) ?_
  refine lv_iand hx hb dL_refuses_976 ?_
  refine lv_if_eq (tgt := 997) hx hb dL_refuses_977 (by decide) (fun c1 => ?_) (fun c1 => ?_)
  · refine W.widen (k := cells + 1) (n := slots + 6) (by omega) (by omega) ?_
    exact kk _ _ _ z1 hl o1 hP hD hS
  · refine lv_aload_n hx hb dL_refuses_980 rfl (lv_at hl 6 rfl) ?_
    refine lv_bipush (v := (14 : Int32)) hx hb dL_refuses_981 (by decide) ?_
    refine lv_iload hx hb dL_refuses_983 (lv_at hl 3 rfl) ?_
    refine lv_iload_n hx hb dL_refuses_985 rfl (lv_at hl 7 rfl) ?_
    refine lv_iconst (v := (3 : Int32)) hx hb dL_refuses_986 (by decide) ?_
    refine lv_irem hx hb dL_refuses_987 (by decide) ?_
    refine lv_iconst (v := (0 : Int32)) hx hb dL_refuses_988 (by decide) ?_
    obtain ⟨z2, o2, hq⟩ := cn_14 l hl0 D cy t xa sa sb tr na ka o1 (rmJ x (uN (sU (pN z)))) (rmJ x (3 : Int32)) (0 : Int32) (v := (-9999003)) (r3_14 (f_buy3 (by rw [o1.2.2.1.1]; exact hu) (is_part (rmJ_3 hx0)) (by rw [o1.2.2.1.1]; unfold m_X7_hasPart; rw [if_neg hu, if_neg (fun e => c1 (bit_sh (q := (uQ (sU (pN z)) (rmJ x (uN (sU (pN z)))).toNatClampNeg)) (k := rmJ x 3) hq7 (rmJ_3 hx0) e))]; decide)))
    refine hwS (A0 := A) (As := [.ref (xa 0), .int (14 : Int32), .int (rmJ x (uN (sU (pN z)))), .int (rmJ x (3 : Int32)), .int (0 : Int32)]) (rest := []) (W1 := (wSp cy xa sa sb tr na ka z1)) (W2 := (wSp cy xa sa sb tr na ka z2)) hq hCF gw_L_call.more rfl hq_L_call ⟨Nat.le_of_ble_eq_true rfl, Nat.le_of_ble_eq_true rfl⟩ hG hF hP hD hS hA h_Sp rfl hl.1 rfl (Nat.le_of_ble_eq_true rfl) dL_refuses_989 ⟨by show _ ≤ 100; omega, by show _ ≤ 600; omega⟩ (fun H locs hP hD hS => ?_)
    refine lv_ldc (v := (-9999003 : Int32)) hx hb hown (hts _ (List.mem_cons_of_mem _ gc_21)) dL_refuses_992 ?_
    refine lv_icmp_ne (tgt := 1001) hx hb dL_refuses_994 (by decide) (fun q => absurd rfl q) (fun _ => ?_)
    refine W.widen (k := cells + 1) (n := slots + 6) (by omega) (by omega) ?_
    exact kk _ _ _ z2 hl o2 hP hD hS
set_option maxRecDepth 20000 in
theorem w_ref11 {p : Program} {l : Launch} {e : Env} {s : State} {m : MethodId} {below : List Frame} {meth : Method} {c : Code} {D : va_G} {cy : Nat → ClassId} {t : FxA} {A : Nat → Prop} {Q : State → Prop} {xa sa sb tr na : Nat → Nat} {ka : Nat → Nat → Nat} {z : SpT} {x fr : Int32} (C0 : LR p l s m meth c ([.ref (xa 0), .int x] : List Value).toArray cL_refuses 8 wc_refuses (some .boolean) D cy t A) (hx0 : 0 ≤ x.toInt) (h0 : OKz z) {T : Int} (g : SG T (pN z)) (hu : ¬ m_X7_has (sU (pN z)) (rmJ x (uN (sU (pN z)))) = 0) (nz : ¬ (uN (sU (pN z))) = 0) (hfr : (fr = 1 ∧ (uP (sU (pN z)) (rmJ x (uN (sU (pN z)))).toNatClampNeg) = (uO (sU (pN z)) (rmJ x (uN (sU (pN z)))).toNatClampNeg)) ∨ (fr = 0 ∧ ¬ (uP (sU (pN z)) (rmJ x (uN (sU (pN z)))).toNatClampNeg) = (uO (sU (pN z)) (rmJ x (uN (sU (pN z)))).toNatClampNeg))) {cells slots : Nat} (hc : cells + 0 ≤ 100) (hs : slots + 0 ≤ 600) {H : Heap} {locs : List Loc} {ls : Array Slot} {z1 : SpT} (hl : lv_has ls 8 [(7, .int fr), (6, .int (uQ (sU (pN z)) (rmJ x (uN (sU (pN z)))).toNatClampNeg)), (5, .int (uO (sU (pN z)) (rmJ x (uN (sU (pN z)))).toNatClampNeg)), (4, .int (rmJ x (uN (sU (pN z))))), (3, .int (1 : Int32)), (2, .int (uN (sU (pN z)))), (0, .ref (xa 0)), (1, .int x)]) (o1 : OKz z1 ∧ VIS z z1) (hP : va_P D vwCl (wSp cy xa sa sb tr na ka z1) H) (hD : va_D A (wSp cy xa sa sb tr na ka z1)) (hS : va_S A s.heap H locs)
    (kk : ∀ (ls : Array Slot) (H : Heap) (locs : List Loc) (z2 : SpT), lv_has ls 8 [(3, .int (1 : Int32)), (0, .ref (xa 0)), (1, .int x)] → (OKz z2 ∧ VIS z z2) → va_P D vwCl (wSp cy xa sa sb tr na ka z2) H → va_D A (wSp cy xa sa sb tr na ka z2) → va_S A s.heap H locs → @Wx p l e ({ frames := 10, cells := 100, slots := 600, locals := 300 } : Room) s m ([.ref (xa 0), .int x] : List Value).toArray below meth c H locs (cells + 0) (slots + 0) Q (F0 m 1003 ls [])) : @Wx p l e ({ frames := 10, cells := 100, slots := 600, locals := 300 } : Room) s m ([.ref (xa 0), .int x] : List Value).toArray below meth c H locs cells slots Q (F0 m 997 ls []) := by
  obtain ⟨hx, hb, hr, hlocks, hts, hown, hCF, hG, hF, hA, hl0⟩ := C0
  have u16 := h0.st.1
  have nh : m_X7_has (sU (pN z)) (uN (sU (pN z))) = 0 := no_has (Or.inr (Int.le_refl _))
  refine lv_iconst (v := (1 : Int32)) hx hb dL_refuses_997 (by decide) ?_
  refine lv_goto (tgt := 1002) hx hb dL_refuses_998 (by decide) ?_
  refine lv_istore_n (lv' := [(3, .int (1 : Int32)), (7, .int fr), (6, .int (uQ (sU (pN z)) (rmJ x (uN (sU (pN z)))).toNatClampNeg)), (5, .int (uO (sU (pN z)) (rmJ x (uN (sU (pN z)))).toNatClampNeg)), (4, .int (rmJ x (uN (sU (pN z))))), (2, .int (uN (sU (pN z)))), (0, .ref (xa 0)), (1, .int x)]) hx hb dL_refuses_1002 rfl hl (by decide) rfl (fun ls hl => ?_)
  have hl : lv_has ls 8 [(3, .int (1 : Int32)), (0, .ref (xa 0)), (1, .int x)] := lv_sub hl [0, 6, 7] rfl
  refine W.widen (k := cells + 0) (n := slots + 0) (by omega) (by omega) ?_
  exact kk _ _ _ z1 hl o1 hP hD hS
set_option maxRecDepth 20000 in
theorem w_ref12 {p : Program} {l : Launch} {e : Env} {s : State} {m : MethodId} {below : List Frame} {meth : Method} {c : Code} {D : va_G} {cy : Nat → ClassId} {t : FxA} {A : Nat → Prop} {Q : State → Prop} {xa sa sb tr na : Nat → Nat} {ka : Nat → Nat → Nat} {z : SpT} {x : Int32} (C0 : LR p l s m meth c ([.ref (xa 0), .int x] : List Value).toArray cL_refuses 8 wc_refuses (some .boolean) D cy t A) (hx0 : 0 ≤ x.toInt) (h0 : OKz z) {T : Int} (g : SG T (pN z)) {cells slots : Nat} (hc : cells + 4 ≤ 100) (hs : slots + 24 ≤ 600) {H : Heap} {locs : List Loc} {ls : Array Slot} {z1 : SpT} (hl : lv_has ls 8 [(3, .int (1 : Int32)), (0, .ref (xa 0)), (1, .int x)]) (o1 : OKz z1 ∧ VIS z z1) (hP : va_P D vwCl (wSp cy xa sa sb tr na ka z1) H) (hD : va_D A (wSp cy xa sa sb tr na ka z1)) (hS : va_S A s.heap H locs)
    (kk : ∀ (ls : Array Slot) (H : Heap) (locs : List Loc) (z2 : SpT), lv_has ls 8 [(3, .int (1 : Int32)), (0, .ref (xa 0)), (1, .int x)] → (OKz z2 ∧ VIS z z2) → va_P D vwCl (wSp cy xa sa sb tr na ka z2) H → va_D A (wSp cy xa sa sb tr na ka z2) → va_S A s.heap H locs → @Wx p l e ({ frames := 10, cells := 100, slots := 600, locals := 300 } : Room) s m ([.ref (xa 0), .int x] : List Value).toArray below meth c H locs (cells + 4) (slots + 24) Q (F0 m 1063 ls [])) : @Wx p l e ({ frames := 10, cells := 100, slots := 600, locals := 300 } : Room) s m ([.ref (xa 0), .int x] : List Value).toArray below meth c H locs cells slots Q (F0 m 1003 ls []) := by
  obtain ⟨hx, hb, hr, hlocks, hts, hown, hCF, hG, hF, hA, hl0⟩ := C0
  have u16 := h0.st.1
  have nh : m_X7_has (sU (pN z)) (uN (sU (pN z))) = 0 := no_has (Or.inr (Int.le_refl _))
  refine lv_iload_n hx hb dL_refuses_1003 rfl (lv_at hl 0 rfl) ?_
  refine lv_if_eq (tgt := 1088) hx hb dL_refuses_1004 (by decide) (fun q => absurd q (by decide)) (fun _ => ?_)
  refine lv_aload_n hx hb dL_refuses_1007 rfl (lv_at hl 1 rfl) ?_
  refine lv_iconst (v := (4 : Int32)) hx hb dL_refuses_1008 (by decide) ?_
  refine lv_lconst (v := (0 : Int64)) hx hb dL_refuses_1009 (by decide) ?_
  obtain ⟨z2, o2, hq⟩ := cn_script l hl0 D cy t xa sa sb tr na ka o1 (4 : Int32) (0 : Int64)
  rw [kv_2 (f_script (Or.inl (by decide)))] at hq
  refine hwSW (A0 := A) (As := [.ref (xa 0), .int (4 : Int32), .long (0 : Int64)]) (rest := []) (W1 := (wSp cy xa sa sb tr na ka z1)) (W2 := (wSp cy xa sa sb tr na ka z2)) hq hCF gw_L_tryScript.more rfl hq_L_tryScript ⟨Nat.le_of_ble_eq_true rfl, Nat.le_of_ble_eq_true rfl⟩ hG hF hP hD hS hA h_Sp rfl hl.1 rfl (Nat.le_of_ble_eq_true rfl) dL_refuses_1010 ⟨by show _ ≤ 100; omega, by show _ ≤ 600; omega⟩ (fun H locs hP hD hS => ?_)
  refine lv_ldc (v := (-9999002 : Int32)) hx hb hown (hts _ (List.mem_cons_of_mem _ gc_28)) dL_refuses_1013 ?_
  refine lv_icmp_ne (tgt := 1088) hx hb dL_refuses_1015 (by decide) (fun q => absurd rfl q) (fun _ => ?_)
  refine lv_aload_n hx hb dL_refuses_1018 rfl (lv_at hl 1 rfl) ?_
  refine lv_iconst (v := (1 : Int32)) hx hb dL_refuses_1019 (by decide) ?_
  refine lv_ldc2 (v := (1000000 : Int64)) hx hb hown (hts _ (List.mem_cons_of_mem _ gcl_203)) dL_refuses_1020 ?_
  refine lv_iload_n hx hb dL_refuses_1023 rfl (lv_at hl 2 rfl) ?_
  refine lv_i2l hx hb dL_refuses_1024 rfl ?_
  refine lv_ladd hx hb dL_refuses_1025 ?_
  obtain ⟨z3, o3, hq⟩ := cn_script l hl0 D cy t xa sa sb tr na ka o2 (1 : Int32) ((1000000 : Int64) + x.toInt64)
  rw [kv_2 (f_script (Or.inr (Or.inr (scr_1 hx0))))] at hq
  refine hwSW (A0 := A) (As := [.ref (xa 0), .int (1 : Int32), .long ((1000000 : Int64) + x.toInt64)]) (rest := []) (W1 := (wSp cy xa sa sb tr na ka z2)) (W2 := (wSp cy xa sa sb tr na ka z3)) hq hCF gw_L_tryScript.more rfl hq_L_tryScript ⟨Nat.le_of_ble_eq_true rfl, Nat.le_of_ble_eq_true rfl⟩ hG hF hP hD hS hA h_Sp rfl hl.1 rfl (Nat.le_of_ble_eq_true rfl) dL_refuses_1026 ⟨by show _ ≤ 100; omega, by show _ ≤ 600; omega⟩ (fun H locs hP hD hS => ?_)
  refine lv_ldc (v := (-9999002 : Int32)) hx hb hown (hts _ (List.mem_cons_of_mem _ gc_28)) dL_refuses_1029 ?_
  refine lv_icmp_ne (tgt := 1088) hx hb dL_refuses_1031 (by decide) (fun q => absurd rfl q) (fun _ => ?_)
  refine lv_aload_n hx hb dL_refuses_1034 rfl (lv_at hl 1 rfl) ?_
  refine lv_iconst (v := (2 : Int32)) hx hb dL_refuses_1035 (by decide) ?_
  refine lv_ldc2 (v := (-1 : Int64)) hx hb hown (hts _ (List.mem_cons_of_mem _ gcl_205)) dL_refuses_1036 ?_
  refine lv_iload_n hx hb dL_refuses_1039 rfl (lv_at hl 2 rfl) ?_
  refine lv_i2l hx hb dL_refuses_1040 rfl ?_
  refine lv_lsub hx hb dL_refuses_1041 ?_
  obtain ⟨z4, o4, hq⟩ := cn_script l hl0 D cy t xa sa sb tr na ka o3 (2 : Int32) ((-1 : Int64) - x.toInt64)
  rw [kv_2 (f_script (Or.inr (Or.inl (scr_2 hx0))))] at hq
  refine hwSW (A0 := A) (As := [.ref (xa 0), .int (2 : Int32), .long ((-1 : Int64) - x.toInt64)]) (rest := []) (W1 := (wSp cy xa sa sb tr na ka z3)) (W2 := (wSp cy xa sa sb tr na ka z4)) hq hCF gw_L_tryScript.more rfl hq_L_tryScript ⟨Nat.le_of_ble_eq_true rfl, Nat.le_of_ble_eq_true rfl⟩ hG hF hP hD hS hA h_Sp rfl hl.1 rfl (Nat.le_of_ble_eq_true rfl) dL_refuses_1042 ⟨by show _ ≤ 100; omega, by show _ ≤ 600; omega⟩ (fun H locs hP hD hS => ?_)
  refine lv_ldc (v := (-9999002 : Int32)) hx hb hown (hts _ (List.mem_cons_of_mem _ gc_28)) dL_refuses_1045 ?_
  refine lv_icmp_ne (tgt := 1088) hx hb dL_refuses_1047 (by decide) (fun q => absurd rfl q) (fun _ => ?_)
  refine lv_aload_n hx hb dL_refuses_1050 rfl (lv_at hl 1 rfl) ?_
  refine lv_iload_n hx hb dL_refuses_1051 rfl (lv_at hl 2 rfl) ?_
  refine lv_i2l hx hb dL_refuses_1052 rfl ?_
  refine lv_bipush (v := (100 : Int32)) hx hb dL_refuses_1053 (by decide) ?_
  obtain ⟨z5, o5, hq⟩ := cn_simulate l hl0 D cy t xa sa sb tr na ka o4 x.toInt64 (100 : Int32)
  rw [kv_2 (f_simulate (Or.inr (by decide)))] at hq
  refine hwSW (A0 := A) (As := [.ref (xa 0), .long x.toInt64, .int (100 : Int32)]) (rest := []) (W1 := (wSp cy xa sa sb tr na ka z4)) (W2 := (wSp cy xa sa sb tr na ka z5)) hq hCF gw_L_trySimulate.more rfl hq_L_trySimulate ⟨Nat.le_of_ble_eq_true rfl, Nat.le_of_ble_eq_true rfl⟩ hG hF hP hD hS hA h_Sp rfl hl.1 rfl (Nat.le_of_ble_eq_true rfl) dL_refuses_1055 ⟨by show _ ≤ 100; omega, by show _ ≤ 600; omega⟩ (fun H locs hP hD hS => ?_)
  refine lv_ldc (v := (-9999002 : Int32)) hx hb hown (hts _ (List.mem_cons_of_mem _ gc_28)) dL_refuses_1058 ?_
  refine lv_icmp_ne (tgt := 1088) hx hb dL_refuses_1060 (by decide) (fun q => absurd rfl q) (fun _ => ?_)
  refine W.widen (k := cells + 4) (n := slots + 24) (by omega) (by omega) ?_
  exact kk _ _ _ z5 hl o5 hP hD hS
