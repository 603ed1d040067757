/-! p35: refuses: calls that are refused, whatever the pool is like -/
theorem fx12 {x : Int32} (hx : 0 ≤ x.toInt) : (fxM (1 + rmJ x 2).toNatClampNeg).toInt = 999 := by
  have h := rmJ_2 hx
  have h1 := h.1
  have h2 := h.2
  have e : (1 + rmJ x 2).toInt = 1 + (rmJ x 2).toInt := by rw [i32_add (by rw [i32_1]; omega) (by rw [i32_1]; omega), i32_1]
  have k : (1 + rmJ x 2).toNatClampNeg = 1 ∨ (1 + rmJ x 2).toNatClampNeg = 2 := by rw [tnc_d, e]; omega
  rcases k with k | k
  · rw [k]; decide
  · rw [k]; decide
theorem lim1 : (m_X3_limit 1).toInt = 1000000 := by decide +kernel
theorem x64 {x : Int32} : x.toInt64.toInt = x.toInt := Int32.toInt_toInt64 x
theorem scr_1 {x : Int32} (hx : 0 ≤ x.toInt) : (m_X3_limit 1).toInt ≤ ((1000000 : Int64) + x.toInt64).toInt := by
  have h := i32_hi x
  rw [lim1, Int64.toInt_add, x64, show (1000000 : Int64).toInt = 1000000 by decide, Int.bmod_eq_of_le (by omega) (by omega)]
  omega
theorem scr_2 {x : Int32} (hx : 0 ≤ x.toInt) : ((-1 : Int64) - x.toInt64).toInt < 0 := by
  have h := i32_hi x
  rw [Int64.toInt_sub, x64, show (-1 : Int64).toInt = -1 by decide, Int.bmod_eq_of_le (by omega) (by omega)]
  omega
theorem bit_sh {q k : Int32} (hq : iv 0 7 q) (hk : iv 0 2 k) (e : q &&& ((1 : Int32) <<< (k &&& 31)) = 0) : (q >>> (k &&& 31)) &&& 1 = 0 := by
  have q0 : ∀ a : Nat, a < 8 → ∀ b : Nat, b < 3 → Int32.ofNat a &&& ((1 : Int32) <<< (Int32.ofNat b &&& 31)) = 0 → (Int32.ofNat a >>> (Int32.ofNat b &&& 31)) &&& 1 = 0 := by decide +kernel
  have e1 : q = Int32.ofNat q.toInt.toNat := i32_eq (by rw [Int32.toInt_ofNat_of_lt (by have := hq.2; omega)]; have := hq.1; omega)
  have e2 : k = Int32.ofNat k.toInt.toNat := i32_eq (by rw [Int32.toInt_ofNat_of_lt (by have := hk.2; omega)]; have := hk.1; omega)
  rw [e1, e2] at e ⊢
  exact q0 _ (by have := hq.2; omega) _ (by have := hk.2; omega) e
set_option maxRecDepth 20000 in
theorem w_ref1 {p : Program} {l : Launch} {e : Env} {s : State} {m : MethodId} {below : List Frame} {meth : Method} {c : Code} {D : va_G} {cy : Nat → ClassId} {t : FxA} {A : Nat → Prop} {Q : State → Prop} {xa sa sb tr na : Nat → Nat} {ka : Nat → Nat → Nat} {z : SpT} {x : Int32} (C0 : LR p l s m meth c ([.ref (xa 0), .int x] : List Value).toArray cL_refuses 8 wc_refuses (some .boolean) D cy t A) (hx0 : 0 ≤ x.toInt) (h0 : OKz z) {T : Int} (g : SG T (pN z)) {cells slots : Nat} (hc : cells + 12 ≤ 100) (hs : slots + 72 ≤ 600) {H : Heap} {locs : List Loc} {ls : Array Slot} {z1 : SpT} (hl : lv_has ls 8 [(0, .ref (xa 0)), (1, .int x)]) (o1 : OKz z1 ∧ VIS z z1) (hP : va_P D vwCl (wSp cy xa sa sb tr na ka z1) H) (hD : va_D A (wSp cy xa sa sb tr na ka z1)) (hS : va_S A s.heap H locs)
    (kk : ∀ (ls : Array Slot) (H : Heap) (locs : List Loc) (z2 : SpT), lv_has ls 8 [(3, .int (1 : Int32)), (2, .int (uN (sU (pN z)))), (0, .ref (xa 0)), (1, .int x)] → (OKz z2 ∧ VIS z z2) → va_P D vwCl (wSp cy xa sa sb tr na ka z2) H → va_D A (wSp cy xa sa sb tr na ka z2) → va_S A s.heap H locs → @Wx p l e ({ frames := 10, cells := 100, slots := 600, locals := 300 } : Room) s m ([.ref (xa 0), .int x] : List Value).toArray below meth c H locs (cells + 12) (slots + 72) Q (F0 m 210 ls [])) : @Wx p l e ({ frames := 10, cells := 100, slots := 600, locals := 300 } : Room) s m ([.ref (xa 0), .int x] : List Value).toArray below meth c H locs cells slots Q (F0 m 0 ls []) := by
  obtain ⟨hx, hb, hr, hlocks, hts, hown, hCF, hG, hF, hA, hl0⟩ := C0
  have u16 := h0.st.1
  have nh : m_X7_has (sU (pN z)) (uN (sU (pN z))) = 0 := no_has (Or.inr (Int.le_refl _))
  refine lv_aload_n hx hb dL_refuses_0 rfl (lv_at hl 0 rfl) ?_
  refine lv_iconst (v := (2 : Int32)) hx hb dL_refuses_1 (by decide) ?_
  refine lv_iconst (v := (1 : Int32)) hx hb dL_refuses_2 (by decide) ?_
  refine lv_iconst (v := (0 : Int32)) hx hb dL_refuses_3 (by decide) ?_
  refine lv_iconst (v := (0 : Int32)) hx hb dL_refuses_4 (by decide) ?_
  obtain ⟨z2, o2, hq⟩ := cn_2 l hl0 D cy t xa sa sb tr na ka o1 (1 : Int32) (0 : Int32) (0 : Int32) (v := (uN (sU (pN z)))) (⟨by rw [← o1.2.2.1.1]; rfl, Or.inr (by unfold isQ; omega)⟩)
  refine hwS (A0 := A) (As := [.ref (xa 0), .int (2 : Int32), .int (1 : Int32), .int (0 : Int32), .int (0 : Int32)]) (rest := []) (W1 := (wSp cy xa sa sb tr na ka z1)) (W2 := (wSp cy xa sa sb tr na ka z2)) hq hCF gw_L_call.more rfl hq_L_call ⟨Nat.le_of_ble_eq_true rfl, Nat.le_of_ble_eq_true rfl⟩ hG hF hP hD hS hA h_Sp rfl hl.1 rfl (Nat.le_of_ble_eq_true rfl) dL_refuses_5 ⟨by show _ ≤ 100; omega, by show _ ≤ 600; omega⟩ (fun H locs hP hD hS => ?_)
  refine lv_istore_n (lv' := [(2, .int (uN (sU (pN z)))), (0, .ref (xa 0)), (1, .int x)]) hx hb dL_refuses_8 rfl hl (by decide) rfl (fun ls hl => ?_)
  refine lv_aload_n hx hb dL_refuses_9 rfl (lv_at hl 1 rfl) ?_
  refine lv_iconst (v := (2 : Int32)) hx hb dL_refuses_10 (by decide) ?_
  refine lv_bipush (v := (10 : Int32)) hx hb dL_refuses_11 (by decide) ?_
  refine lv_iload_n hx hb dL_refuses_13 rfl (lv_at hl 2 rfl) ?_
  refine lv_bipush (v := (9 : Int32)) hx hb dL_refuses_14 (by decide) ?_
  refine lv_irem hx hb dL_refuses_16 (by decide) ?_
  refine lv_iadd hx hb dL_refuses_17 ?_
  refine lv_iconst (v := (0 : Int32)) hx hb dL_refuses_18 (by decide) ?_
  refine lv_iconst (v := (0 : Int32)) hx hb dL_refuses_19 (by decide) ?_
  obtain ⟨z3, o3, hq⟩ := cn_2 l hl0 D cy t xa sa sb tr na ka o2 ((10 : Int32) + (rmJ x (9 : Int32))) (0 : Int32) (0 : Int32) (v := (-9999002)) (r2_2 (f_about (add9 (k := (10 : Int32)) hx0 (K := 10) (by decide) (by decide)).1))
  refine hwS (A0 := A) (As := [.ref (xa 0), .int (2 : Int32), .int ((10 : Int32) + (rmJ x (9 : Int32))), .int (0 : Int32), .int (0 : Int32)]) (rest := []) (W1 := (wSp cy xa sa sb tr na ka z2)) (W2 := (wSp cy xa sa sb tr na ka z3)) hq hCF gw_L_call.more rfl hq_L_call ⟨Nat.le_of_ble_eq_true rfl, Nat.le_of_ble_eq_true rfl⟩ hG hF hP hD hS hA h_Sp rfl hl.1 rfl (Nat.le_of_ble_eq_true rfl) dL_refuses_20 ⟨by show _ ≤ 100; omega, by show _ ≤ 600; omega⟩ (fun H locs hP hD hS => ?_)
  refine lv_ldc (v := (-9999002 : Int32)) hx hb hown (hts _ (List.mem_cons_of_mem _ gc_28)) dL_refuses_23 ?_
  refine lv_icmp_ne (tgt := 208) hx hb dL_refuses_25 (by decide) (fun q => absurd rfl q) (fun _ => ?_)
  refine lv_aload_n hx hb dL_refuses_28 rfl (lv_at hl 1 rfl) ?_
  refine lv_iconst (v := (3 : Int32)) hx hb dL_refuses_29 (by decide) ?_
  refine lv_iload_n hx hb dL_refuses_30 rfl (lv_at hl 0 rfl) ?_
  refine lv_bipush (v := (9 : Int32)) hx hb dL_refuses_31 (by decide) ?_
  refine lv_iconst (v := (0 : Int32)) hx hb dL_refuses_33 (by decide) ?_
  obtain ⟨z4, o4, hq⟩ := cn_3 l hl0 D cy t xa sa sb tr na ka o3 (uN (sU (pN z))) (9 : Int32) (0 : Int32) (v := (-9999001)) (r1_3 (f_unit1 (by rw [o3.2.2.1.1]; exact nh)))
  refine hwS (A0 := A) (As := [.ref (xa 0), .int (3 : Int32), .int (uN (sU (pN z))), .int (9 : Int32), .int (0 : Int32)]) (rest := []) (W1 := (wSp cy xa sa sb tr na ka z3)) (W2 := (wSp cy xa sa sb tr na ka z4)) hq hCF gw_L_call.more rfl hq_L_call ⟨Nat.le_of_ble_eq_true rfl, Nat.le_of_ble_eq_true rfl⟩ hG hF hP hD hS hA h_Sp rfl hl.1 rfl (Nat.le_of_ble_eq_true rfl) dL_refuses_34 ⟨by show _ ≤ 100; omega, by show _ ≤ 600; omega⟩ (fun H locs hP hD hS => ?_)
  refine lv_ldc (v := (-9999001 : Int32)) hx hb hown (hts _ (List.mem_cons_of_mem _ gc_15)) dL_refuses_37 ?_
  refine lv_icmp_ne (tgt := 208) hx hb dL_refuses_39 (by decide) (fun q => absurd rfl q) (fun _ => ?_)
  refine lv_aload_n hx hb dL_refuses_42 rfl (lv_at hl 1 rfl) ?_
  refine lv_iconst (v := (4 : Int32)) hx hb dL_refuses_43 (by decide) ?_
  refine lv_iconst (v := (5 : Int32)) hx hb dL_refuses_44 (by decide) ?_
  refine lv_iload_n hx hb dL_refuses_45 rfl (lv_at hl 2 rfl) ?_
  refine lv_bipush (v := (9 : Int32)) hx hb dL_refuses_46 (by decide) ?_
  refine lv_irem hx hb dL_refuses_48 (by decide) ?_
  refine lv_iadd hx hb dL_refuses_49 ?_
  refine lv_bipush (v := (9 : Int32)) hx hb dL_refuses_50 (by decide) ?_
  refine lv_iconst (v := (0 : Int32)) hx hb dL_refuses_52 (by decide) ?_
  obtain ⟨z5, o5, hq⟩ := cn_4 l hl0 D cy t xa sa sb tr na ka o4 ((5 : Int32) + (rmJ x (9 : Int32))) (9 : Int32) (0 : Int32) (v := (-9999001)) (r1_4 (f_holder1 (no_hold (Or.inr (add9 (k := (5 : Int32)) hx0 (K := 5) (by decide) (by decide)).1))))
  refine hwS (A0 := A) (As := [.ref (xa 0), .int (4 : Int32), .int ((5 : Int32) + (rmJ x (9 : Int32))), .int (9 : Int32), .int (0 : Int32)]) (rest := []) (W1 := (wSp cy xa sa sb tr na ka z4)) (W2 := (wSp cy xa sa sb tr na ka z5)) hq hCF gw_L_call.more rfl hq_L_call ⟨Nat.le_of_ble_eq_true rfl, Nat.le_of_ble_eq_true rfl⟩ hG hF hP hD hS hA h_Sp rfl hl.1 rfl (Nat.le_of_ble_eq_true rfl) dL_refuses_53 ⟨by show _ ≤ 100; omega, by show _ ≤ 600; omega⟩ (fun H locs hP hD hS => ?_)
  refine lv_ldc (v := (-9999001 : Int32)) hx hb hown (hts _ (List.mem_cons_of_mem _ gc_15)) dL_refuses_56 ?_
  refine lv_icmp_ne (tgt := 208) hx hb dL_refuses_58 (by decide) (fun q => absurd rfl q) (fun _ => ?_)
  refine lv_aload_n hx hb dL_refuses_61 rfl (lv_at hl 1 rfl) ?_
  refine lv_iconst (v := (4 : Int32)) hx hb dL_refuses_62 (by decide) ?_
  refine lv_iload_n hx hb dL_refuses_63 rfl (lv_at hl 2 rfl) ?_
  refine lv_iconst (v := (5 : Int32)) hx hb dL_refuses_64 (by decide) ?_
  refine lv_irem hx hb dL_refuses_65 (by decide) ?_
  refine lv_bipush (v := (7 : Int32)) hx hb dL_refuses_66 (by decide) ?_
  refine lv_iload_n hx hb dL_refuses_68 rfl (lv_at hl 2 rfl) ?_
  refine lv_bipush (v := (9 : Int32)) hx hb dL_refuses_69 (by decide) ?_
  refine lv_irem hx hb dL_refuses_71 (by decide) ?_
  refine lv_iadd hx hb dL_refuses_72 ?_
  refine lv_iconst (v := (0 : Int32)) hx hb dL_refuses_73 (by decide) ?_
  obtain ⟨z6, o6, hq⟩ := cn_4 l hl0 D cy t xa sa sb tr na ka o5 (rmJ x (5 : Int32)) ((7 : Int32) + (rmJ x (9 : Int32))) (0 : Int32) (v := (-9999002)) (r2_4 (f_holder2 (holdI (rmJ_5 hx0)) (add9 (k := (7 : Int32)) hx0 (K := 7) (by decide) (by decide)).1))
  refine hwS (A0 := A) (As := [.ref (xa 0), .int (4 : Int32), .int (rmJ x (5 : Int32)), .int ((7 : Int32) + (rmJ x (9 : Int32))), .int (0 : Int32)]) (rest := []) (W1 := (wSp cy xa sa sb tr na ka z5)) (W2 := (wSp cy xa sa sb tr na ka z6)) hq hCF gw_L_call.more rfl hq_L_call ⟨Nat.le_of_ble_eq_true rfl, Nat.le_of_ble_eq_true rfl⟩ hG hF hP hD hS hA h_Sp rfl hl.1 rfl (Nat.le_of_ble_eq_true rfl) dL_refuses_74 ⟨by show _ ≤ 100; omega, by show _ ≤ 600; omega⟩ (fun H locs hP hD hS => ?_)
  refine lv_ldc (v := (-9999002 : Int32)) hx hb hown (hts _ (List.mem_cons_of_mem _ gc_28)) dL_refuses_77 ?_
  refine lv_icmp_ne (tgt := 208) hx hb dL_refuses_79 (by decide) (fun q => absurd rfl q) (fun _ => ?_)
  refine lv_aload_n hx hb dL_refuses_82 rfl (lv_at hl 1 rfl) ?_
  refine lv_iconst (v := (0 : Int32)) hx hb dL_refuses_83 (by decide) ?_
  refine lv_iconst (v := (5 : Int32)) hx hb dL_refuses_84 (by decide) ?_
  refine lv_iconst (v := (0 : Int32)) hx hb dL_refuses_85 (by decide) ?_
  refine lv_iconst (v := (0 : Int32)) hx hb dL_refuses_86 (by decide) ?_
  have hq := co_owed1 l hl0 D cy t xa sa sb tr na ka o6.1 (0 : Int32) (5 : Int32) (0 : Int32) (0 : Int32) (f_owed (Or.inr (Or.inl (no_hold (by decide)))))
  refine hwSW (A0 := A) (As := [.ref (xa 0), .int (0 : Int32), .int (5 : Int32), .int (0 : Int32), .int (0 : Int32)]) (rest := []) (W1 := (wSp cy xa sa sb tr na ka z6)) (W2 := (wSp cy xa sa sb tr na ka z6)) hq hCF gw_L_tryOwed.more rfl hq_L_tryOwed ⟨Nat.le_of_ble_eq_true rfl, Nat.le_of_ble_eq_true rfl⟩ hG hF hP hD hS hA h_Sp rfl hl.1 rfl (Nat.le_of_ble_eq_true rfl) dL_refuses_87 ⟨by show _ ≤ 100; omega, by show _ ≤ 600; omega⟩ (fun H locs hP hD hS => ?_)
  refine lv_ldc (v := (-9999001 : Int32)) hx hb hown (hts _ (List.mem_cons_of_mem _ gc_15)) dL_refuses_90 ?_
  refine lv_icmp_ne (tgt := 208) hx hb dL_refuses_92 (by decide) (fun q => absurd rfl q) (fun _ => ?_)
  refine lv_aload_n hx hb dL_refuses_95 rfl (lv_at hl 1 rfl) ?_
  refine lv_iconst (v := (0 : Int32)) hx hb dL_refuses_96 (by decide) ?_
  refine lv_iconst (v := (0 : Int32)) hx hb dL_refuses_97 (by decide) ?_
  refine lv_iconst (v := (3 : Int32)) hx hb dL_refuses_98 (by decide) ?_
  refine lv_iload_n hx hb dL_refuses_99 rfl (lv_at hl 2 rfl) ?_
  refine lv_bipush (v := (9 : Int32)) hx hb dL_refuses_100 (by decide) ?_
  refine lv_irem hx hb dL_refuses_102 (by decide) ?_
  refine lv_iadd hx hb dL_refuses_103 ?_
  refine lv_iconst (v := (0 : Int32)) hx hb dL_refuses_104 (by decide) ?_
  have hq := co_owed1 l hl0 D cy t xa sa sb tr na ka o6.1 (0 : Int32) (0 : Int32) ((3 : Int32) + (rmJ x 9)) (0 : Int32) (f_owed (Or.inr (Or.inr (Or.inl (no_kind (Or.inr (add9 (k := (3 : Int32)) hx0 (K := 3) (by decide) (by decide)).1))))))
  refine hwSW (A0 := A) (As := [.ref (xa 0), .int (0 : Int32), .int (0 : Int32), .int ((3 : Int32) + (rmJ x (9 : Int32))), .int (0 : Int32)]) (rest := []) (W1 := (wSp cy xa sa sb tr na ka z6)) (W2 := (wSp cy xa sa sb tr na ka z6)) hq hCF gw_L_tryOwed.more rfl hq_L_tryOwed ⟨Nat.le_of_ble_eq_true rfl, Nat.le_of_ble_eq_true rfl⟩ hG hF hP hD hS hA h_Sp rfl hl.1 rfl (Nat.le_of_ble_eq_true rfl) dL_refuses_105 ⟨by show _ ≤ 100; omega, by show _ ≤ 600; omega⟩ (fun H locs hP hD hS => ?_)
  refine lv_ldc (v := (-9999001 : Int32)) hx hb hown (hts _ (List.mem_cons_of_mem _ gc_15)) dL_refuses_108 ?_
  refine lv_icmp_ne (tgt := 208) hx hb dL_refuses_110 (by decide) (fun q => absurd rfl q) (fun _ => ?_)
  refine lv_aload_n hx hb dL_refuses_113 rfl (lv_at hl 1 rfl) ?_
  refine lv_iconst (v := (0 : Int32)) hx hb dL_refuses_114 (by decide) ?_
  refine lv_iconst (v := (0 : Int32)) hx hb dL_refuses_115 (by decide) ?_
  refine lv_iconst (v := (0 : Int32)) hx hb dL_refuses_116 (by decide) ?_
  refine lv_iconst (v := (-1 : Int32)) hx hb dL_refuses_117 (by decide) ?_
  refine lv_iload_n hx hb dL_refuses_118 rfl (lv_at hl 2 rfl) ?_
  refine lv_bipush (v := (9 : Int32)) hx hb dL_refuses_119 (by decide) ?_
  refine lv_irem hx hb dL_refuses_121 (by decide) ?_
  refine lv_isub hx hb dL_refuses_122 ?_
  have hq := co_owed1 l hl0 D cy t xa sa sb tr na ka o6.1 (0 : Int32) (0 : Int32) (0 : Int32) ((-1 : Int32) - (rmJ x 9)) (f_owed (Or.inr (Or.inr (Or.inr (no_part (Or.inl (neg9 hx0)))))))
  refine hwSW (A0 := A) (As := [.ref (xa 0), .int (0 : Int32), .int (0 : Int32), .int (0 : Int32), .int ((-1 : Int32) - (rmJ x (9 : Int32)))]) (rest := []) (W1 := (wSp cy xa sa sb tr na ka z6)) (W2 := (wSp cy xa sa sb tr na ka z6)) hq hCF gw_L_tryOwed.more rfl hq_L_tryOwed ⟨Nat.le_of_ble_eq_true rfl, Nat.le_of_ble_eq_true rfl⟩ hG hF hP hD hS hA h_Sp rfl hl.1 rfl (Nat.le_of_ble_eq_true rfl) dL_refuses_123 ⟨by show _ ≤ 100; omega, by show _ ≤ 600; omega⟩ (fun H locs hP hD hS => ?_)
  refine lv_ldc (v := (-9999001 : Int32)) hx hb hown (hts _ (List.mem_cons_of_mem _ gc_15)) dL_refuses_126 ?_
  refine lv_icmp_ne (tgt := 208) hx hb dL_refuses_128 (by decide) (fun q => absurd rfl q) (fun _ => ?_)
  refine lv_aload_n hx hb dL_refuses_131 rfl (lv_at hl 1 rfl) ?_
  refine lv_iconst (v := (5 : Int32)) hx hb dL_refuses_132 (by decide) ?_
  refine lv_iconst (v := (5 : Int32)) hx hb dL_refuses_133 (by decide) ?_
  refine lv_iconst (v := (-1 : Int32)) hx hb dL_refuses_134 (by decide) ?_
  refine lv_bipush (v := (9 : Int32)) hx hb dL_refuses_135 (by decide) ?_
  obtain ⟨z7, o7, hq⟩ := cn_5 l hl0 D cy t xa sa sb tr na ka o6 (5 : Int32) (-1 : Int32) (9 : Int32) (v := (-9999001)) (r1_5 (f_core1 (no_hold (by decide))))
  refine hwS (A0 := A) (As := [.ref (xa 0), .int (5 : Int32), .int (5 : Int32), .int (-1 : Int32), .int (9 : Int32)]) (rest := []) (W1 := (wSp cy xa sa sb tr na ka z6)) (W2 := (wSp cy xa sa sb tr na ka z7)) hq hCF gw_L_call.more rfl hq_L_call ⟨Nat.le_of_ble_eq_true rfl, Nat.le_of_ble_eq_true rfl⟩ hG hF hP hD hS hA h_Sp rfl hl.1 rfl (Nat.le_of_ble_eq_true rfl) dL_refuses_137 ⟨by show _ ≤ 100; omega, by show _ ≤ 600; omega⟩ (fun H locs hP hD hS => ?_)
  refine lv_ldc (v := (-9999001 : Int32)) hx hb hown (hts _ (List.mem_cons_of_mem _ gc_15)) dL_refuses_140 ?_
  refine lv_icmp_ne (tgt := 208) hx hb dL_refuses_142 (by decide) (fun q => absurd rfl q) (fun _ => ?_)
  refine lv_aload_n hx hb dL_refuses_145 rfl (lv_at hl 1 rfl) ?_
  refine lv_iconst (v := (5 : Int32)) hx hb dL_refuses_146 (by decide) ?_
  refine lv_iload_n hx hb dL_refuses_147 rfl (lv_at hl 2 rfl) ?_
  refine lv_iconst (v := (5 : Int32)) hx hb dL_refuses_148 (by decide) ?_
  refine lv_irem hx hb dL_refuses_149 (by decide) ?_
  refine lv_iconst (v := (-1 : Int32)) hx hb dL_refuses_150 (by decide) ?_
  refine lv_iload_n hx hb dL_refuses_151 rfl (lv_at hl 2 rfl) ?_
  refine lv_bipush (v := (9 : Int32)) hx hb dL_refuses_152 (by decide) ?_
  refine lv_irem hx hb dL_refuses_154 (by decide) ?_
  refine lv_isub hx hb dL_refuses_155 ?_
  refine lv_iconst (v := (0 : Int32)) hx hb dL_refuses_156 (by decide) ?_
  obtain ⟨z8, o8, hq⟩ := cn_5 l hl0 D cy t xa sa sb tr na ka o7 (rmJ x (5 : Int32)) ((-1 : Int32) - (rmJ x (9 : Int32))) (0 : Int32) (v := (-9999002)) (r2_5 (f_core2 (holdI (rmJ_5 hx0)) (Or.inl (neg9 hx0))))
  refine hwS (A0 := A) (As := [.ref (xa 0), .int (5 : Int32), .int (rmJ x (5 : Int32)), .int ((-1 : Int32) - (rmJ x (9 : Int32))), .int (0 : Int32)]) (rest := []) (W1 := (wSp cy xa sa sb tr na ka z7)) (W2 := (wSp cy xa sa sb tr na ka z8)) hq hCF gw_L_call.more rfl hq_L_call ⟨Nat.le_of_ble_eq_true rfl, Nat.le_of_ble_eq_true rfl⟩ hG hF hP hD hS hA h_Sp rfl hl.1 rfl (Nat.le_of_ble_eq_true rfl) dL_refuses_157 ⟨by show _ ≤ 100; omega, by show _ ≤ 600; omega⟩ (fun H locs hP hD hS => ?_)
  refine lv_ldc (v := (-9999002 : Int32)) hx hb hown (hts _ (List.mem_cons_of_mem _ gc_28)) dL_refuses_160 ?_
  refine lv_icmp_ne (tgt := 208) hx hb dL_refuses_162 (by decide) (fun q => absurd rfl q) (fun _ => ?_)
  refine lv_aload_n hx hb dL_refuses_165 rfl (lv_at hl 1 rfl) ?_
  refine lv_iconst (v := (5 : Int32)) hx hb dL_refuses_166 (by decide) ?_
  refine lv_iload_n hx hb dL_refuses_167 rfl (lv_at hl 2 rfl) ?_
  refine lv_iconst (v := (5 : Int32)) hx hb dL_refuses_168 (by decide) ?_
  refine lv_irem hx hb dL_refuses_169 (by decide) ?_
  refine lv_iconst (v := (0 : Int32)) hx hb dL_refuses_170 (by decide) ?_
  refine lv_iconst (v := (2 : Int32)) hx hb dL_refuses_171 (by decide) ?_
  refine lv_iload_n hx hb dL_refuses_172 rfl (lv_at hl 2 rfl) ?_
  refine lv_bipush (v := (9 : Int32)) hx hb dL_refuses_173 (by decide) ?_
  refine lv_irem hx hb dL_refuses_175 (by decide) ?_
  refine lv_iadd hx hb dL_refuses_176 ?_
  obtain ⟨z9, o9, hq⟩ := cn_5 l hl0 D cy t xa sa sb tr na ka o8 (rmJ x (5 : Int32)) (0 : Int32) ((2 : Int32) + (rmJ x (9 : Int32))) (v := (-9999002)) (r2_5 (f_core2 (holdI (rmJ_5 hx0)) (Or.inr (Or.inr (by have := add9 (k := (2 : Int32)) hx0 (K := 2) (by decide) (by decide); omega)))))
  refine hwS (A0 := A) (As := [.ref (xa 0), .int (5 : Int32), .int (rmJ x (5 : Int32)), .int (0 : Int32), .int ((2 : Int32) + (rmJ x (9 : Int32)))]) (rest := []) (W1 := (wSp cy xa sa sb tr na ka z8)) (W2 := (wSp cy xa sa sb tr na ka z9)) hq hCF gw_L_call.more rfl hq_L_call ⟨Nat.le_of_ble_eq_true rfl, Nat.le_of_ble_eq_true rfl⟩ hG hF hP hD hS hA h_Sp rfl hl.1 rfl (Nat.le_of_ble_eq_true rfl) dL_refuses_177 ⟨by show _ ≤ 100; omega, by show _ ≤ 600; omega⟩ (fun H locs hP hD hS => ?_)
  refine lv_ldc (v := (-9999002 : Int32)) hx hb hown (hts _ (List.mem_cons_of_mem _ gc_28)) dL_refuses_180 ?_
  refine lv_icmp_ne (tgt := 208) hx hb dL_refuses_182 (by decide) (fun q => absurd rfl q) (fun _ => ?_)
  refine lv_aload_n hx hb dL_refuses_185 rfl (lv_at hl 1 rfl) ?_
  refine lv_bipush (v := (6 : Int32)) hx hb dL_refuses_186 (by decide) ?_
  refine lv_iconst (v := (3 : Int32)) hx hb dL_refuses_188 (by decide) ?_
  refine lv_iload_n hx hb dL_refuses_189 rfl (lv_at hl 2 rfl) ?_
  refine lv_bipush (v := (9 : Int32)) hx hb dL_refuses_190 (by decide) ?_
  refine lv_irem hx hb dL_refuses_192 (by decide) ?_
  refine lv_iadd hx hb dL_refuses_193 ?_
  refine lv_iconst (v := (0 : Int32)) hx hb dL_refuses_194 (by decide) ?_
  refine lv_iconst (v := (0 : Int32)) hx hb dL_refuses_195 (by decide) ?_
  obtain ⟨z10, o10, hq⟩ := cn_6 l hl0 D cy t xa sa sb tr na ka o9 ((3 : Int32) + (rmJ x (9 : Int32))) (0 : Int32) (0 : Int32) (v := (-9999002)) (r2_6 (f_setting (no_setting (Or.inr (add9 (k := (3 : Int32)) hx0 (K := 3) (by decide) (by decide)).1))))
  refine hwS (A0 := A) (As := [.ref (xa 0), .int (6 : Int32), .int ((3 : Int32) + (rmJ x (9 : Int32))), .int (0 : Int32), .int (0 : Int32)]) (rest := []) (W1 := (wSp cy xa sa sb tr na ka z9)) (W2 := (wSp cy xa sa sb tr na ka z10)) hq hCF gw_L_call.more rfl hq_L_call ⟨Nat.le_of_ble_eq_true rfl, Nat.le_of_ble_eq_true rfl⟩ hG hF hP hD hS hA h_Sp rfl hl.1 rfl (Nat.le_of_ble_eq_true rfl) dL_refuses_196 ⟨by show _ ≤ 100; omega, by show _ ≤ 600; omega⟩ (fun H locs hP hD hS => ?_)
  refine lv_ldc (v := (-9999002 : Int32)) hx hb hown (hts _ (List.mem_cons_of_mem _ gc_28)) dL_refuses_199 ?_
  refine lv_icmp_ne (tgt := 208) hx hb dL_refuses_201 (by decide) (fun q => absurd rfl q) (fun _ => ?_)
  refine lv_iconst (v := (1 : Int32)) hx hb dL_refuses_204 (by decide) ?_
  refine lv_goto (tgt := 209) hx hb dL_refuses_205 (by decide) ?_
  refine lv_istore_n (lv' := [(3, .int (1 : Int32)), (2, .int (uN (sU (pN z)))), (0, .ref (xa 0)), (1, .int x)]) hx hb dL_refuses_209 rfl hl (by decide) rfl (fun ls hl => ?_)
  refine W.widen (k := cells + 12) (n := slots + 72) (by omega) (by omega) ?_
  exact kk _ _ _ z10 hl o10 hP hD hS
set_option maxRecDepth 20000 in
theorem w_ref2 {p : Program} {l : Launch} {e : Env} {s : State} {m : MethodId} {below : List Frame} {meth : Method} {c : Code} {D : va_G} {cy : Nat → ClassId} {t : FxA} {A : Nat → Prop} {Q : State → Prop} {xa sa sb tr na : Nat → Nat} {ka : Nat → Nat → Nat} {z : SpT} {x : Int32} (C0 : LR p l s m meth c ([.ref (xa 0), .int x] : List Value).toArray cL_refuses 8 wc_refuses (some .boolean) D cy t A) (hx0 : 0 ≤ x.toInt) (h0 : OKz z) {T : Int} (g : SG T (pN z)) {cells slots : Nat} (hc : cells + 3 ≤ 100) (hs : slots + 18 ≤ 600) {H : Heap} {locs : List Loc} {ls : Array Slot} {z1 : SpT} (hl : lv_has ls 8 [(3, .int (1 : Int32)), (2, .int (uN (sU (pN z)))), (0, .ref (xa 0)), (1, .int x)]) (o1 : OKz z1 ∧ VIS z z1) (hP : va_P D vwCl (wSp cy xa sa sb tr na ka z1) H) (hD : va_D A (wSp cy xa sa sb tr na ka z1)) (hS : va_S A s.heap H locs)
    (kk : ∀ (ls : Array Slot) (H : Heap) (locs : List Loc) (z2 : SpT), lv_has ls 8 [(3, .int (1 : Int32)), (2, .int (uN (sU (pN z)))), (0, .ref (xa 0)), (1, .int x)] → (OKz z2 ∧ VIS z z2) → va_P D vwCl (wSp cy xa sa sb tr na ka z2) H → va_D A (wSp cy xa sa sb tr na ka z2) → va_S A s.heap H locs → @Wx p l e ({ frames := 10, cells := 100, slots := 600, locals := 300 } : Room) s m ([.ref (xa 0), .int x] : List Value).toArray below meth c H locs (cells + 3) (slots + 18) Q (F0 m 268 ls [])) : @Wx p l e ({ frames := 10, cells := 100, slots := 600, locals := 300 } : Room) s m ([.ref (xa 0), .int x] : List Value).toArray below meth c H locs cells slots Q (F0 m 210 ls []) := by
  obtain ⟨hx, hb, hr, hlocks, hts, hown, hCF, hG, hF, hA, hl0⟩ := C0
  have u16 := h0.st.1
  have nh : m_X7_has (sU (pN z)) (uN (sU (pN z))) = 0 := no_has (Or.inr (Int.le_refl _))
  refine lv_iload_n hx hb dL_refuses_210 rfl (lv_at hl 0 rfl) ?_
  refine lv_if_eq (tgt := 446) hx hb dL_refuses_211 (by decide) (fun q => absurd q (by decide)) (fun _ => ?_)
  refine lv_aload_n hx hb dL_refuses_214 rfl (lv_at hl 2 rfl) ?_
  refine lv_bipush (v := (7 : Int32)) hx hb dL_refuses_215 (by decide) ?_
  refine lv_iconst (v := (3 : Int32)) hx hb dL_refuses_217 (by decide) ?_
  refine lv_iconst (v := (0 : Int32)) hx hb dL_refuses_218 (by decide) ?_
  refine lv_bipush (v := (9 : Int32)) hx hb dL_refuses_219 (by decide) ?_
  obtain ⟨z2, o2, hq⟩ := cn_7 l hl0 D cy t xa sa sb tr na ka o1 (3 : Int32) (0 : Int32) (9 : Int32) (v := (-9999001)) (r1_7 (f_come1 (Or.inl (no_kind (by decide)))))
  refine hwS (A0 := A) (As := [.ref (xa 0), .int (7 : Int32), .int (3 : Int32), .int (0 : Int32), .int (9 : Int32)]) (rest := []) (W1 := (wSp cy xa sa sb tr na ka z1)) (W2 := (wSp cy xa sa sb tr na ka z2)) hq hCF gw_L_call.more rfl hq_L_call ⟨Nat.le_of_ble_eq_true rfl, Nat.le_of_ble_eq_true rfl⟩ hG hF hP hD hS hA h_Sp rfl hl.1 rfl (Nat.le_of_ble_eq_true rfl) dL_refuses_221 ⟨by show _ ≤ 100; omega, by show _ ≤ 600; omega⟩ (fun H locs hP hD hS => ?_)
  refine lv_ldc (v := (-9999001 : Int32)) hx hb hown (hts _ (List.mem_cons_of_mem _ gc_15)) dL_refuses_224 ?_
  refine lv_icmp_ne (tgt := 446) hx hb dL_refuses_226 (by decide) (fun q => absurd rfl q) (fun _ => ?_)
  refine lv_aload_n hx hb dL_refuses_229 rfl (lv_at hl 2 rfl) ?_
  refine lv_bipush (v := (7 : Int32)) hx hb dL_refuses_230 (by decide) ?_
  refine lv_iconst (v := (0 : Int32)) hx hb dL_refuses_232 (by decide) ?_
  refine lv_iconst (v := (5 : Int32)) hx hb dL_refuses_233 (by decide) ?_
  refine lv_bipush (v := (9 : Int32)) hx hb dL_refuses_234 (by decide) ?_
  obtain ⟨z3, o3, hq⟩ := cn_7 l hl0 D cy t xa sa sb tr na ka o2 (0 : Int32) (5 : Int32) (9 : Int32) (v := (-9999001)) (r1_7 (f_come1 (Or.inr (no_hold (by decide)))))
  refine hwS (A0 := A) (As := [.ref (xa 0), .int (7 : Int32), .int (0 : Int32), .int (5 : Int32), .int (9 : Int32)]) (rest := []) (W1 := (wSp cy xa sa sb tr na ka z2)) (W2 := (wSp cy xa sa sb tr na ka z3)) hq hCF gw_L_call.more rfl hq_L_call ⟨Nat.le_of_ble_eq_true rfl, Nat.le_of_ble_eq_true rfl⟩ hG hF hP hD hS hA h_Sp rfl hl.1 rfl (Nat.le_of_ble_eq_true rfl) dL_refuses_236 ⟨by show _ ≤ 100; omega, by show _ ≤ 600; omega⟩ (fun H locs hP hD hS => ?_)
  refine lv_ldc (v := (-9999001 : Int32)) hx hb hown (hts _ (List.mem_cons_of_mem _ gc_15)) dL_refuses_239 ?_
  refine lv_icmp_ne (tgt := 446) hx hb dL_refuses_241 (by decide) (fun q => absurd rfl q) (fun _ => ?_)
  refine lv_aload_n hx hb dL_refuses_244 rfl (lv_at hl 2 rfl) ?_
  refine lv_bipush (v := (7 : Int32)) hx hb dL_refuses_245 (by decide) ?_
  refine lv_iload_n hx hb dL_refuses_247 rfl (lv_at hl 3 rfl) ?_
  refine lv_iconst (v := (3 : Int32)) hx hb dL_refuses_248 (by decide) ?_
  refine lv_irem hx hb dL_refuses_249 (by decide) ?_
  refine lv_iload_n hx hb dL_refuses_250 rfl (lv_at hl 3 rfl) ?_
  refine lv_iconst (v := (5 : Int32)) hx hb dL_refuses_251 (by decide) ?_
  refine lv_irem hx hb dL_refuses_252 (by decide) ?_
  refine lv_bipush (v := (8 : Int32)) hx hb dL_refuses_253 (by decide) ?_
  refine lv_iload_n hx hb dL_refuses_255 rfl (lv_at hl 3 rfl) ?_
  refine lv_bipush (v := (9 : Int32)) hx hb dL_refuses_256 (by decide) ?_
  refine lv_irem hx hb dL_refuses_258 (by decide) ?_
  refine lv_iadd hx hb dL_refuses_259 ?_
  obtain ⟨z4, o4, hq⟩ := cn_7 l hl0 D cy t xa sa sb tr na ka o3 (rmJ x (3 : Int32)) (rmJ x (5 : Int32)) ((8 : Int32) + (rmJ x (9 : Int32))) (v := (-9999002)) (r2_7 (f_come2 (is_kind (rmJ_3 hx0)) (holdI (rmJ_5 hx0)) (by have := add9 (k := (8 : Int32)) hx0 (K := 8) (by decide) (by decide); omega)))
  refine hwS (A0 := A) (As := [.ref (xa 0), .int (7 : Int32), .int (rmJ x (3 : Int32)), .int (rmJ x (5 : Int32)), .int ((8 : Int32) + (rmJ x (9 : Int32)))]) (rest := []) (W1 := (wSp cy xa sa sb tr na ka z3)) (W2 := (wSp cy xa sa sb tr na ka z4)) hq hCF gw_L_call.more rfl hq_L_call ⟨Nat.le_of_ble_eq_true rfl, Nat.le_of_ble_eq_true rfl⟩ hG hF hP hD hS hA h_Sp rfl hl.1 rfl (Nat.le_of_ble_eq_true rfl) dL_refuses_260 ⟨by show _ ≤ 100; omega, by show _ ≤ 600; omega⟩ (fun H locs hP hD hS => ?_)
  refine lv_ldc (v := (-9999002 : Int32)) hx hb hown (hts _ (List.mem_cons_of_mem _ gc_28)) dL_refuses_263 ?_
  refine lv_icmp_ne (tgt := 446) hx hb dL_refuses_265 (by decide) (fun q => absurd rfl q) (fun _ => ?_)
  refine W.widen (k := cells + 3) (n := slots + 18) (by omega) (by omega) ?_
  exact kk _ _ _ z4 hl o4 hP hD hS
set_option maxRecDepth 20000 in
theorem w_ref3 {p : Program} {l : Launch} {e : Env} {s : State} {m : MethodId} {below : List Frame} {meth : Method} {c : Code} {D : va_G} {cy : Nat → ClassId} {t : FxA} {A : Nat → Prop} {Q : State → Prop} {xa sa sb tr na : Nat → Nat} {ka : Nat → Nat → Nat} {z : SpT} {x : Int32} (C0 : LR p l s m meth c ([.ref (xa 0), .int x] : List Value).toArray cL_refuses 8 wc_refuses (some .boolean) D cy t A) (hx0 : 0 ≤ x.toInt) (h0 : OKz z) {T : Int} (g : SG T (pN z)) {cells slots : Nat} (hc : cells + 1 ≤ 100) (hs : slots + 6 ≤ 600) {H : Heap} {locs : List Loc} {ls : Array Slot} {z1 : SpT} (hl : lv_has ls 8 [(3, .int (1 : Int32)), (2, .int (uN (sU (pN z)))), (0, .ref (xa 0)), (1, .int x)]) (o1 : OKz z1 ∧ VIS z z1) (hP : va_P D vwCl (wSp cy xa sa sb tr na ka z1) H) (hD : va_D A (wSp cy xa sa sb tr na ka z1)) (hS : va_S A s.heap H locs)
    (kk : ∀ (ls : Array Slot) (H : Heap) (locs : List Loc) (z2 : SpT), lv_has ls 8 [(3, .int (1 : Int32)), (2, .int (uN (sU (pN z)))), (0, .ref (xa 0)), (1, .int x)] → (OKz z2 ∧ VIS z z2) → va_P D vwCl (wSp cy xa sa sb tr na ka z2) H → va_D A (wSp cy xa sa sb tr na ka z2) → va_S A s.heap H locs → @Wx p l e ({ frames := 10, cells := 100, slots := 600, locals := 300 } : Room) s m ([.ref (xa 0), .int x] : List Value).toArray below meth c H locs (cells + 1) (slots + 6) Q (F0 m 288 ls [])) : @Wx p l e ({ frames := 10, cells := 100, slots := 600, locals := 300 } : Room) s m ([.ref (xa 0), .int x] : List Value).toArray below meth c H locs cells slots Q (F0 m 268 ls []) := by
  obtain ⟨hx, hb, hr, hlocks, hts, hown, hCF, hG, hF, hA, hl0⟩ := C0
  have u16 := h0.st.1
  have nh : m_X7_has (sU (pN z)) (uN (sU (pN z))) = 0 := no_has (Or.inr (Int.le_refl _))
  refine lv_iload_n hx hb dL_refuses_268 rfl (lv_at hl 1 rfl) ?_
  refine lv_bipush (v := (16 : Int32)) hx hb dL_refuses_269 (by decide) ?_
  refine lv_icmp_lt (tgt := 288) hx hb dL_refuses_271 (by decide) (fun c1 => ?_) (fun c1 => ?_)
  · refine W.widen (k := cells + 1) (n := slots + 6) (by omega) (by omega) ?_
    exact kk _ _ _ z1 hl o1 hP hD hS
  · refine lv_aload_n hx hb dL_refuses_274 rfl (lv_at hl 2 rfl) ?_
    refine lv_bipush (v := (7 : Int32)) hx hb dL_refuses_275 (by decide) ?_
    refine lv_iconst (v := (0 : Int32)) hx hb dL_refuses_277 (by decide) ?_
    refine lv_iconst (v := (0 : Int32)) hx hb dL_refuses_278 (by decide) ?_
    refine lv_iconst (v := (0 : Int32)) hx hb dL_refuses_279 (by decide) ?_
    obtain ⟨z2, o2, hq⟩ := cn_7 l hl0 D cy t xa sa sb tr na ka o1 (0 : Int32) (0 : Int32) (0 : Int32) (v := (-9999003)) (r3_7 (f_come3 (is_kind ⟨by decide, by decide⟩) (holdI ⟨by decide, by decide⟩) ⟨by decide, by decide⟩ (by rw [o1.2.2.1.1]; rw [i32_lt, ii16] at c1; omega)))
    refine hwS (A0 := A) (As := [.ref (xa 0), .int (7 : Int32), .int (0 : Int32), .int (0 : Int32), .int (0 : Int32)]) (rest := []) (W1 := (wSp cy xa sa sb tr na ka z1)) (W2 := (wSp cy xa sa sb tr na ka z2)) hq hCF gw_L_call.more rfl hq_L_call ⟨Nat.le_of_ble_eq_true rfl, Nat.le_of_ble_eq_true rfl⟩ hG hF hP hD hS hA h_Sp rfl hl.1 rfl (Nat.le_of_ble_eq_true rfl) dL_refuses_280 ⟨by show _ ≤ 100; omega, by show _ ≤ 600; omega⟩ (fun H locs hP hD hS => ?_)
    refine lv_ldc (v := (-9999003 : Int32)) hx hb hown (hts _ (List.mem_cons_of_mem _ gc_21)) dL_refuses_283 ?_
    refine lv_icmp_ne (tgt := 446) hx hb dL_refuses_285 (by decide) (fun q => absurd rfl q) (fun _ => ?_)
    refine W.widen (k := cells + 1) (n := slots + 6) (by omega) (by omega) ?_
    exact kk _ _ _ z2 hl o2 hP hD hS
