/-! p35: refuses, on -/
set_option maxRecDepth 20000 in
theorem w_ref6 {p : Program} {l : Launch} {e : Env} {s : State} {m : MethodId} {below : List Frame} {meth : Method} {c : Code} {D : va_G} {cy : Nat → ClassId} {t : FxA} {A : Nat → Prop} {Q : State → Prop} {xa sa sb tr na : Nat → Nat} {ka : Nat → Nat → Nat} {z : SpT} {x : Int32} (C0 : LR p l s m meth c ([.ref (xa 0), .int x] : List Value).toArray cL_refuses 8 wc_refuses (some .boolean) D cy t A) (hx0 : 0 ≤ x.toInt) (h0 : OKz z) {T : Int} (g : SG T (pN z)) (hu : ¬ m_X7_has (sU (pN z)) (rmJ x (uN (sU (pN z)))) = 0) (nz : ¬ (uN (sU (pN z))) = 0) {cells slots : Nat} (hc : cells + 3 ≤ 100) (hs : slots + 18 ≤ 600) {H : Heap} {locs : List Loc} {ls : Array Slot} {z1 : SpT} (hl : lv_has ls 8 [(3, .int (1 : Int32)), (2, .int (uN (sU (pN z)))), (0, .ref (xa 0)), (1, .int x)]) (o1 : OKz z1 ∧ VIS z z1) (hP : va_P D vwCl (wSp cy xa sa sb tr na ka z1) H) (hD : va_D A (wSp cy xa sa sb tr na ka z1)) (hS : va_S A s.heap H locs)
    (kk : ∀ (ls : Array Slot) (H : Heap) (locs : List Loc) (z2 : SpT) (fr : Int32), lv_has ls 8 [(7, .int fr), (6, .int (uQ (sU (pN z)) (rmJ x (uN (sU (pN z)))).toNatClampNeg)), (5, .int (uO (sU (pN z)) (rmJ x (uN (sU (pN z)))).toNatClampNeg)), (4, .int (rmJ x (uN (sU (pN z))))), (3, .int (1 : Int32)), (2, .int (uN (sU (pN z)))), (0, .ref (xa 0)), (1, .int x)] → ((fr = 1 ∧ (uP (sU (pN z)) (rmJ x (uN (sU (pN z)))).toNatClampNeg) = (uO (sU (pN z)) (rmJ x (uN (sU (pN z)))).toNatClampNeg)) ∨ (fr = 0 ∧ ¬ (uP (sU (pN z)) (rmJ x (uN (sU (pN z)))).toNatClampNeg) = (uO (sU (pN z)) (rmJ x (uN (sU (pN z)))).toNatClampNeg))) → (OKz z2 ∧ VIS z z2) → va_P D vwCl (wSp cy xa sa sb tr na ka z2) H → va_D A (wSp cy xa sa sb tr na ka z2) → va_S A s.heap H locs → @Wx p l e ({ frames := 10, cells := 100, slots := 600, locals := 300 } : Room) s m ([.ref (xa 0), .int x] : List Value).toArray below meth c H locs (cells + 3) (slots + 18) Q (F0 m 734 ls [])) : @Wx p l e ({ frames := 10, cells := 100, slots := 600, locals := 300 } : Room) s m ([.ref (xa 0), .int x] : List Value).toArray below meth c H locs cells slots Q (F0 m 686 ls []) := by
  obtain ⟨hx, hb, hr, hlocks, hts, hown, hCF, hG, hF, hA, hl0⟩ := C0
  have u16 := h0.st.1
  have nh : m_X7_has (sU (pN z)) (uN (sU (pN z))) = 0 := no_has (Or.inr (Int.le_refl _))
  refine lv_iload_n hx hb dL_refuses_686 rfl (lv_at hl 3 rfl) ?_
  refine lv_iload_n hx hb dL_refuses_687 rfl (lv_at hl 1 rfl) ?_
  refine lv_irem hx hb dL_refuses_688 nz ?_
  refine lv_istore (lv' := [(4, .int (rmJ x (uN (sU (pN z))))), (3, .int (1 : Int32)), (2, .int (uN (sU (pN z)))), (0, .ref (xa 0)), (1, .int x)]) hx hb dL_refuses_689 hl (by decide) rfl (fun ls hl => ?_)
  refine lv_aload_n hx hb dL_refuses_691 rfl (lv_at hl 3 rfl) ?_
  refine lv_iconst (v := (3 : Int32)) hx hb dL_refuses_692 (by decide) ?_
  refine lv_iload hx hb dL_refuses_693 (lv_at hl 0 rfl) ?_
  refine lv_iconst (v := (1 : Int32)) hx hb dL_refuses_695 (by decide) ?_
  refine lv_iconst (v := (0 : Int32)) hx hb dL_refuses_696 (by decide) ?_
  obtain ⟨z2, o2, hq⟩ := cn_3 l hl0 D cy t xa sa sb tr na ka o1 (rmJ x (uN (sU (pN z)))) (1 : Int32) (0 : Int32) (v := (uO (sU (pN z)) (rmJ x (uN (sU (pN z)))).toNatClampNeg)) (⟨by rw [(kv_unit (by rw [o1.2.2.1.1]; exact hu)).2.1, o1.2.2.1.1], Or.inr (by unfold isQ; omega)⟩)
  refine hwS (A0 := A) (As := [.ref (xa 0), .int (3 : Int32), .int (rmJ x (uN (sU (pN z)))), .int (1 : Int32), .int (0 : Int32)]) (rest := []) (W1 := (wSp cy xa sa sb tr na ka z1)) (W2 := (wSp cy xa sa sb tr na ka z2)) hq hCF gw_L_call.more rfl hq_L_call ⟨Nat.le_of_ble_eq_true rfl, Nat.le_of_ble_eq_true rfl⟩ hG hF hP hD hS hA h_Sp rfl hl.1 rfl (Nat.le_of_ble_eq_true rfl) dL_refuses_697 ⟨by show _ ≤ 100; omega, by show _ ≤ 600; omega⟩ (fun H locs hP hD hS => ?_)
  refine lv_istore (lv' := [(5, .int (uO (sU (pN z)) (rmJ x (uN (sU (pN z)))).toNatClampNeg)), (4, .int (rmJ x (uN (sU (pN z))))), (3, .int (1 : Int32)), (2, .int (uN (sU (pN z)))), (0, .ref (xa 0)), (1, .int x)]) hx hb dL_refuses_700 hl (by decide) rfl (fun ls hl => ?_)
  refine lv_aload_n hx hb dL_refuses_702 rfl (lv_at hl 4 rfl) ?_
  refine lv_iconst (v := (3 : Int32)) hx hb dL_refuses_703 (by decide) ?_
  refine lv_iload hx hb dL_refuses_704 (lv_at hl 1 rfl) ?_
  refine lv_iconst (v := (3 : Int32)) hx hb dL_refuses_706 (by decide) ?_
  refine lv_iconst (v := (0 : Int32)) hx hb dL_refuses_707 (by decide) ?_
  obtain ⟨z3, o3, hq⟩ := cn_3 l hl0 D cy t xa sa sb tr na ka o2 (rmJ x (uN (sU (pN z)))) (3 : Int32) (0 : Int32) (v := (uQ (sU (pN z)) (rmJ x (uN (sU (pN z)))).toNatClampNeg)) (⟨by rw [(kv_unit (by rw [o2.2.2.1.1]; exact hu)).2.2.2.1, o2.2.2.1.1], Or.inr (by unfold isQ; omega)⟩)
  refine hwS (A0 := A) (As := [.ref (xa 0), .int (3 : Int32), .int (rmJ x (uN (sU (pN z)))), .int (3 : Int32), .int (0 : Int32)]) (rest := []) (W1 := (wSp cy xa sa sb tr na ka z2)) (W2 := (wSp cy xa sa sb tr na ka z3)) hq hCF gw_L_call.more rfl hq_L_call ⟨Nat.le_of_ble_eq_true rfl, Nat.le_of_ble_eq_true rfl⟩ hG hF hP hD hS hA h_Sp rfl hl.1 rfl (Nat.le_of_ble_eq_true rfl) dL_refuses_708 ⟨by show _ ≤ 100; omega, by show _ ≤ 600; omega⟩ (fun H locs hP hD hS => ?_)
  refine lv_istore (lv' := [(6, .int (uQ (sU (pN z)) (rmJ x (uN (sU (pN z)))).toNatClampNeg)), (5, .int (uO (sU (pN z)) (rmJ x (uN (sU (pN z)))).toNatClampNeg)), (4, .int (rmJ x (uN (sU (pN z))))), (3, .int (1 : Int32)), (2, .int (uN (sU (pN z)))), (0, .ref (xa 0)), (1, .int x)]) hx hb dL_refuses_711 hl (by decide) rfl (fun ls hl => ?_)
  refine lv_iload hx hb dL_refuses_713 (lv_at hl 1 rfl) ?_
  refine lv_aload_n hx hb dL_refuses_715 rfl (lv_at hl 5 rfl) ?_
  refine lv_iconst (v := (3 : Int32)) hx hb dL_refuses_716 (by decide) ?_
  refine lv_iload hx hb dL_refuses_717 (lv_at hl 2 rfl) ?_
  refine lv_iconst (v := (2 : Int32)) hx hb dL_refuses_719 (by decide) ?_
  refine lv_iconst (v := (0 : Int32)) hx hb dL_refuses_720 (by decide) ?_
  obtain ⟨z4, o4, hq⟩ := cn_3 l hl0 D cy t xa sa sb tr na ka o3 (rmJ x (uN (sU (pN z)))) (2 : Int32) (0 : Int32) (v := (uP (sU (pN z)) (rmJ x (uN (sU (pN z)))).toNatClampNeg)) (⟨by rw [(kv_unit (by rw [o3.2.2.1.1]; exact hu)).2.2.1, o3.2.2.1.1], Or.inr (by unfold isQ; omega)⟩)
  refine hwS (A0 := A) (As := [.ref (xa 0), .int (3 : Int32), .int (rmJ x (uN (sU (pN z)))), .int (2 : Int32), .int (0 : Int32)]) (rest := [.int (uO (sU (pN z)) (rmJ x (uN (sU (pN z)))).toNatClampNeg)]) (W1 := (wSp cy xa sa sb tr na ka z3)) (W2 := (wSp cy xa sa sb tr na ka z4)) hq hCF gw_L_call.more rfl hq_L_call ⟨Nat.le_of_ble_eq_true rfl, Nat.le_of_ble_eq_true rfl⟩ hG hF hP hD hS hA h_Sp rfl hl.1 rfl (Nat.le_of_ble_eq_true rfl) dL_refuses_721 ⟨by show _ ≤ 100; omega, by show _ ≤ 600; omega⟩ (fun H locs hP hD hS => ?_)
  refine lv_icmp_ne (tgt := 731) hx hb dL_refuses_724 (by decide) (fun c1 => ?_) (fun c1 => ?_)
  · refine lv_iconst (v := (0 : Int32)) hx hb dL_refuses_731 (by decide) ?_
    refine lv_istore (lv' := [(7, .int (0 : Int32)), (6, .int (uQ (sU (pN z)) (rmJ x (uN (sU (pN z)))).toNatClampNeg)), (5, .int (uO (sU (pN z)) (rmJ x (uN (sU (pN z)))).toNatClampNeg)), (4, .int (rmJ x (uN (sU (pN z))))), (3, .int (1 : Int32)), (2, .int (uN (sU (pN z)))), (0, .ref (xa 0)), (1, .int x)]) hx hb dL_refuses_732 hl (by decide) rfl (fun ls hl => ?_)
    exact kk _ _ _ z4 0 hl (Or.inr ⟨rfl, fun e => c1 e.symm⟩) o4 hP hD hS
  · refine lv_iconst (v := (1 : Int32)) hx hb dL_refuses_727 (by decide) ?_
    refine lv_goto (tgt := 732) hx hb dL_refuses_728 (by decide) ?_
    refine lv_istore (lv' := [(7, .int (1 : Int32)), (6, .int (uQ (sU (pN z)) (rmJ x (uN (sU (pN z)))).toNatClampNeg)), (5, .int (uO (sU (pN z)) (rmJ x (uN (sU (pN z)))).toNatClampNeg)), (4, .int (rmJ x (uN (sU (pN z))))), (3, .int (1 : Int32)), (2, .int (uN (sU (pN z)))), (0, .ref (xa 0)), (1, .int x)]) hx hb dL_refuses_732 hl (by decide) rfl (fun ls hl => ?_)
    exact kk _ _ _ z4 1 hl (Or.inl ⟨rfl, c1.symm⟩) o4 hP hD hS
set_option maxRecDepth 20000 in
theorem w_ref7 {p : Program} {l : Launch} {e : Env} {s : State} {m : MethodId} {below : List Frame} {meth : Method} {c : Code} {D : va_G} {cy : Nat → ClassId} {t : FxA} {A : Nat → Prop} {Q : State → Prop} {xa sa sb tr na : Nat → Nat} {ka : Nat → Nat → Nat} {z : SpT} {x fr : Int32} (C0 : LR p l s m meth c ([.ref (xa 0), .int x] : List Value).toArray cL_refuses 8 wc_refuses (some .boolean) D cy t A) (hx0 : 0 ≤ x.toInt) (h0 : OKz z) {T : Int} (g : SG T (pN z)) (hu : ¬ m_X7_has (sU (pN z)) (rmJ x (uN (sU (pN z)))) = 0) (nz : ¬ (uN (sU (pN z))) = 0) (hfr : (fr = 1 ∧ (uP (sU (pN z)) (rmJ x (uN (sU (pN z)))).toNatClampNeg) = (uO (sU (pN z)) (rmJ x (uN (sU (pN z)))).toNatClampNeg)) ∨ (fr = 0 ∧ ¬ (uP (sU (pN z)) (rmJ x (uN (sU (pN z)))).toNatClampNeg) = (uO (sU (pN z)) (rmJ x (uN (sU (pN z)))).toNatClampNeg))) {cells slots : Nat} (hc : cells + 4 ≤ 100) (hs : slots + 24 ≤ 600) {H : Heap} {locs : List Loc} {ls : Array Slot} {z1 : SpT} (hl : lv_has ls 8 [(7, .int fr), (6, .int (uQ (sU (pN z)) (rmJ x (uN (sU (pN z)))).toNatClampNeg)), (5, .int (uO (sU (pN z)) (rmJ x (uN (sU (pN z)))).toNatClampNeg)), (4, .int (rmJ x (uN (sU (pN z))))), (3, .int (1 : Int32)), (2, .int (uN (sU (pN z)))), (0, .ref (xa 0)), (1, .int x)]) (o1 : OKz z1 ∧ VIS z z1) (hP : va_P D vwCl (wSp cy xa sa sb tr na ka z1) H) (hD : va_D A (wSp cy xa sa sb tr na ka z1)) (hS : va_S A s.heap H locs)
    (kk : ∀ (ls : Array Slot) (H : Heap) (locs : List Loc) (z2 : SpT), lv_has ls 8 [(7, .int fr), (6, .int (uQ (sU (pN z)) (rmJ x (uN (sU (pN z)))).toNatClampNeg)), (5, .int (uO (sU (pN z)) (rmJ x (uN (sU (pN z)))).toNatClampNeg)), (4, .int (rmJ x (uN (sU (pN z))))), (3, .int (1 : Int32)), (2, .int (uN (sU (pN z)))), (0, .ref (xa 0)), (1, .int x)] → (OKz z2 ∧ VIS z z2) → va_P D vwCl (wSp cy xa sa sb tr na ka z2) H → va_D A (wSp cy xa sa sb tr na ka z2) → va_S A s.heap H locs → @Wx p l e ({ frames := 10, cells := 100, slots := 600, locals := 300 } : Room) s m ([.ref (xa 0), .int x] : List Value).toArray below meth c H locs (cells + 4) (slots + 24) Q (F0 m 812 ls [])) : @Wx p l e ({ frames := 10, cells := 100, slots := 600, locals := 300 } : Room) s m ([.ref (xa 0), .int x] : List Value).toArray below meth c H locs cells slots Q (F0 m 734 ls []) := by
  obtain ⟨hx, hb, hr, hlocks, hts, hown, hCF, hG, hF, hA, hl0⟩ := C0
  have u16 := h0.st.1
  have nh : m_X7_has (sU (pN z)) (uN (sU (pN z))) = 0 := no_has (Or.inr (Int.le_refl _))
  have hlt : (rmJ x (uN (sU (pN z)))).toNatClampNeg < 16 := has_lt hu u16
  have hou : iv 0 4 (uO (sU (pN z)) (rmJ x (uN (sU (pN z)))).toNatClampNeg) := (g.2.2.2 _ hlt).1
  refine lv_iload_n hx hb dL_refuses_734 rfl (lv_at hl 4 rfl) ?_
  refine lv_if_eq (tgt := 1001) hx hb dL_refuses_735 (by decide) (fun q => absurd q (by decide)) (fun _ => ?_)
  refine lv_aload_n hx hb dL_refuses_738 rfl (lv_at hl 6 rfl) ?_
  refine lv_iconst (v := (3 : Int32)) hx hb dL_refuses_739 (by decide) ?_
  refine lv_iload hx hb dL_refuses_740 (lv_at hl 3 rfl) ?_
  refine lv_bipush (v := (6 : Int32)) hx hb dL_refuses_742 (by decide) ?_
  refine lv_iload_n hx hb dL_refuses_744 rfl (lv_at hl 7 rfl) ?_
  refine lv_bipush (v := (9 : Int32)) hx hb dL_refuses_745 (by decide) ?_
  refine lv_irem hx hb dL_refuses_747 (by decide) ?_
  refine lv_iadd hx hb dL_refuses_748 ?_
  refine lv_iconst (v := (0 : Int32)) hx hb dL_refuses_749 (by decide) ?_
  obtain ⟨z2, o2, hq⟩ := cn_3 l hl0 D cy t xa sa sb tr na ka o1 (rmJ x (uN (sU (pN z)))) ((6 : Int32) + (rmJ x (9 : Int32))) (0 : Int32) (v := (-9999002)) (r2_3 (f_unit2 (by rw [o1.2.2.1.1]; exact hu) (add9 (k := (6 : Int32)) hx0 (K := 6) (by decide) (by decide)).1))
  refine hwS (A0 := A) (As := [.ref (xa 0), .int (3 : Int32), .int (rmJ x (uN (sU (pN z)))), .int ((6 : Int32) + (rmJ x (9 : Int32))), .int (0 : Int32)]) (rest := []) (W1 := (wSp cy xa sa sb tr na ka z1)) (W2 := (wSp cy xa sa sb tr na ka z2)) hq hCF gw_L_call.more rfl hq_L_call ⟨Nat.le_of_ble_eq_true rfl, Nat.le_of_ble_eq_true rfl⟩ hG hF hP hD hS hA h_Sp rfl hl.1 rfl (Nat.le_of_ble_eq_true rfl) dL_refuses_750 ⟨by show _ ≤ 100; omega, by show _ ≤ 600; omega⟩ (fun H locs hP hD hS => ?_)
  refine lv_ldc (v := (-9999002 : Int32)) hx hb hown (hts _ (List.mem_cons_of_mem _ gc_28)) dL_refuses_753 ?_
  refine lv_icmp_ne (tgt := 1001) hx hb dL_refuses_755 (by decide) (fun q => absurd rfl q) (fun _ => ?_)
  refine lv_aload_n hx hb dL_refuses_758 rfl (lv_at hl 6 rfl) ?_
  refine lv_bipush (v := (8 : Int32)) hx hb dL_refuses_759 (by decide) ?_
  refine lv_iload hx hb dL_refuses_761 (lv_at hl 3 rfl) ?_
  refine lv_iconst (v := (5 : Int32)) hx hb dL_refuses_763 (by decide) ?_
  refine lv_iconst (v := (0 : Int32)) hx hb dL_refuses_764 (by decide) ?_
  obtain ⟨z3, o3, hq⟩ := cn_8 l hl0 D cy t xa sa sb tr na ka o2 (rmJ x (uN (sU (pN z)))) (5 : Int32) (0 : Int32) (v := (-9999001)) (r1_8 (f_lend1 (Or.inr (no_hold (by decide)))))
  refine hwS (A0 := A) (As := [.ref (xa 0), .int (8 : Int32), .int (rmJ x (uN (sU (pN z)))), .int (5 : Int32), .int (0 : Int32)]) (rest := []) (W1 := (wSp cy xa sa sb tr na ka z2)) (W2 := (wSp cy xa sa sb tr na ka z3)) hq hCF gw_L_call.more rfl hq_L_call ⟨Nat.le_of_ble_eq_true rfl, Nat.le_of_ble_eq_true rfl⟩ hG hF hP hD hS hA h_Sp rfl hl.1 rfl (Nat.le_of_ble_eq_true rfl) dL_refuses_765 ⟨by show _ ≤ 100; omega, by show _ ≤ 600; omega⟩ (fun H locs hP hD hS => ?_)
  refine lv_ldc (v := (-9999001 : Int32)) hx hb hown (hts _ (List.mem_cons_of_mem _ gc_15)) dL_refuses_768 ?_
  refine lv_icmp_ne (tgt := 1001) hx hb dL_refuses_770 (by decide) (fun q => absurd rfl q) (fun _ => ?_)
  refine lv_aload_n hx hb dL_refuses_773 rfl (lv_at hl 6 rfl) ?_
  refine lv_bipush (v := (8 : Int32)) hx hb dL_refuses_774 (by decide) ?_
  refine lv_iload hx hb dL_refuses_776 (lv_at hl 3 rfl) ?_
  refine lv_iload_n hx hb dL_refuses_778 rfl (lv_at hl 7 rfl) ?_
  refine lv_iconst (v := (5 : Int32)) hx hb dL_refuses_779 (by decide) ?_
  refine lv_irem hx hb dL_refuses_780 (by decide) ?_
  refine lv_bipush (v := (31 : Int32)) hx hb dL_refuses_781 (by decide) ?_
  refine lv_iload_n hx hb dL_refuses_783 rfl (lv_at hl 7 rfl) ?_
  refine lv_bipush (v := (9 : Int32)) hx hb dL_refuses_784 (by decide) ?_
  refine lv_irem hx hb dL_refuses_786 (by decide) ?_
  refine lv_iadd hx hb dL_refuses_787 ?_
  obtain ⟨z4, o4, hq⟩ := cn_8 l hl0 D cy t xa sa sb tr na ka o3 (rmJ x (uN (sU (pN z)))) (rmJ x (5 : Int32)) ((31 : Int32) + (rmJ x (9 : Int32))) (v := (-9999002)) (r2_8 (f_lend2 (by rw [o3.2.2.1.1]; exact hu) (holdI (rmJ_5 hx0)) (no_term (Or.inr (by have := add9 (k := (31 : Int32)) hx0 (K := 31) (by decide) (by decide); omega)))))
  refine hwS (A0 := A) (As := [.ref (xa 0), .int (8 : Int32), .int (rmJ x (uN (sU (pN z)))), .int (rmJ x (5 : Int32)), .int ((31 : Int32) + (rmJ x (9 : Int32)))]) (rest := []) (W1 := (wSp cy xa sa sb tr na ka z3)) (W2 := (wSp cy xa sa sb tr na ka z4)) hq hCF gw_L_call.more rfl hq_L_call ⟨Nat.le_of_ble_eq_true rfl, Nat.le_of_ble_eq_true rfl⟩ hG hF hP hD hS hA h_Sp rfl hl.1 rfl (Nat.le_of_ble_eq_true rfl) dL_refuses_788 ⟨by show _ ≤ 100; omega, by show _ ≤ 600; omega⟩ (fun H locs hP hD hS => ?_)
  refine lv_ldc (v := (-9999002 : Int32)) hx hb hown (hts _ (List.mem_cons_of_mem _ gc_28)) dL_refuses_791 ?_
  refine lv_icmp_ne (tgt := 1001) hx hb dL_refuses_793 (by decide) (fun q => absurd rfl q) (fun _ => ?_)
  refine lv_aload_n hx hb dL_refuses_796 rfl (lv_at hl 6 rfl) ?_
  refine lv_bipush (v := (8 : Int32)) hx hb dL_refuses_797 (by decide) ?_
  refine lv_iload hx hb dL_refuses_799 (lv_at hl 3 rfl) ?_
  refine lv_iload hx hb dL_refuses_801 (lv_at hl 2 rfl) ?_
  refine lv_iconst (v := (5 : Int32)) hx hb dL_refuses_803 (by decide) ?_
  obtain ⟨z5, o5, hq⟩ := cn_8 l hl0 D cy t xa sa sb tr na ka o4 (rmJ x (uN (sU (pN z)))) (uO (sU (pN z)) (rmJ x (uN (sU (pN z)))).toNatClampNeg) (5 : Int32) (v := (-9999003)) (r3_8 (f_lend3 (by rw [o4.2.2.1.1]; exact hu) (holdI hou) (is_term ⟨by decide, by decide⟩) (Or.inr (by rw [o4.2.2.1.1]))))
  refine hwS (A0 := A) (As := [.ref (xa 0), .int (8 : Int32), .int (rmJ x (uN (sU (pN z)))), .int (uO (sU (pN z)) (rmJ x (uN (sU (pN z)))).toNatClampNeg), .int (5 : Int32)]) (rest := []) (W1 := (wSp cy xa sa sb tr na ka z4)) (W2 := (wSp cy xa sa sb tr na ka z5)) hq hCF gw_L_call.more rfl hq_L_call ⟨Nat.le_of_ble_eq_true rfl, Nat.le_of_ble_eq_true rfl⟩ hG hF hP hD hS hA h_Sp rfl hl.1 rfl (Nat.le_of_ble_eq_true rfl) dL_refuses_804 ⟨by show _ ≤ 100; omega, by show _ ≤ 600; omega⟩ (fun H locs hP hD hS => ?_)
  refine lv_ldc (v := (-9999003 : Int32)) hx hb hown (hts _ (List.mem_cons_of_mem _ gc_21)) dL_refuses_807 ?_
  refine lv_icmp_ne (tgt := 1001) hx hb dL_refuses_809 (by decide) (fun q => absurd rfl q) (fun _ => ?_)
  refine W.widen (k := cells + 4) (n := slots + 24) (by omega) (by omega) ?_
  exact kk _ _ _ z5 hl o5 hP hD hS
set_option maxRecDepth 20000 in
theorem w_ref8 {p : Program} {l : Launch} {e : Env} {s : State} {m : MethodId} {below : List Frame} {meth : Method} {c : Code} {D : va_G} {cy : Nat → ClassId} {t : FxA} {A : Nat → Prop} {Q : State → Prop} {xa sa sb tr na : Nat → Nat} {ka : Nat → Nat → Nat} {z : SpT} {x fr : Int32} (C0 : LR p l s m meth c ([.ref (xa 0), .int x] : List Value).toArray cL_refuses 8 wc_refuses (some .boolean) D cy t A) (hx0 : 0 ≤ x.toInt) (h0 : OKz z) {T : Int} (g : SG T (pN z)) (hu : ¬ m_X7_has (sU (pN z)) (rmJ x (uN (sU (pN z)))) = 0) (nz : ¬ (uN (sU (pN z))) = 0) (hfr : (fr = 1 ∧ (uP (sU (pN z)) (rmJ x (uN (sU (pN z)))).toNatClampNeg) = (uO (sU (pN z)) (rmJ x (uN (sU (pN z)))).toNatClampNeg)) ∨ (fr = 0 ∧ ¬ (uP (sU (pN z)) (rmJ x (uN (sU (pN z)))).toNatClampNeg) = (uO (sU (pN z)) (rmJ x (uN (sU (pN z)))).toNatClampNeg))) {cells slots : Nat} (hc : cells + 2 ≤ 100) (hs : slots + 12 ≤ 600) {H : Heap} {locs : List Loc} {ls : Array Slot} {z1 : SpT} (hl : lv_has ls 8 [(7, .int fr), (6, .int (uQ (sU (pN z)) (rmJ x (uN (sU (pN z)))).toNatClampNeg)), (5, .int (uO (sU (pN z)) (rmJ x (uN (sU (pN z)))).toNatClampNeg)), (4, .int (rmJ x (uN (sU (pN z))))), (3, .int (1 : Int32)), (2, .int (uN (sU (pN z)))), (0, .ref (xa 0)), (1, .int x)]) (o1 : OKz z1 ∧ VIS z z1) (hP : va_P D vwCl (wSp cy xa sa sb tr na ka z1) H) (hD : va_D A (wSp cy xa sa sb tr na ka z1)) (hS : va_S A s.heap H locs)
    (kk : ∀ (ls : Array Slot) (H : Heap) (locs : List Loc) (z2 : SpT), lv_has ls 8 [(7, .int fr), (6, .int (uQ (sU (pN z)) (rmJ x (uN (sU (pN z)))).toNatClampNeg)), (5, .int (uO (sU (pN z)) (rmJ x (uN (sU (pN z)))).toNatClampNeg)), (4, .int (rmJ x (uN (sU (pN z))))), (3, .int (1 : Int32)), (2, .int (uN (sU (pN z)))), (0, .ref (xa 0)), (1, .int x)] → (OKz z2 ∧ VIS z z2) → va_P D vwCl (wSp cy xa sa sb tr na ka z2) H → va_D A (wSp cy xa sa sb tr na ka z2) → va_S A s.heap H locs → @Wx p l e ({ frames := 10, cells := 100, slots := 600, locals := 300 } : Room) s m ([.ref (xa 0), .int x] : List Value).toArray below meth c H locs (cells + 2) (slots + 12) Q (F0 m 867 ls [])) : @Wx p l e ({ frames := 10, cells := 100, slots := 600, locals := 300 } : Room) s m ([.ref (xa 0), .int x] : List Value).toArray below meth c H locs cells slots Q (F0 m 812 ls []) := by
  obtain ⟨hx, hb, hr, hlocks, hts, hown, hCF, hG, hF, hA, hl0⟩ := C0
  have u16 := h0.st.1
  have nh : m_X7_has (sU (pN z)) (uN (sU (pN z))) = 0 := no_has (Or.inr (Int.le_refl _))
  refine lv_iload hx hb dL_refuses_812 (lv_at hl 0 rfl) ?_
  rcases hfr with ⟨rfl, hfe⟩ | ⟨rfl, hfe⟩
  · refine lv_if_eq (tgt := 835) hx hb dL_refuses_814 (by decide) (fun q => absurd q (by decide)) (fun _ => ?_)
    refine lv_aload_n hx hb dL_refuses_817 rfl (lv_at hl 6 rfl) ?_
    refine lv_bipush (v := (9 : Int32)) hx hb dL_refuses_818 (by decide) ?_
    refine lv_iload hx hb dL_refuses_820 (lv_at hl 3 rfl) ?_
    refine lv_iconst (v := (0 : Int32)) hx hb dL_refuses_822 (by decide) ?_
    refine lv_iconst (v := (0 : Int32)) hx hb dL_refuses_823 (by decide) ?_
    obtain ⟨z2, o2, hq⟩ := cn_9 l hl0 D cy t xa sa sb tr na ka o1 (rmJ x (uN (sU (pN z)))) (0 : Int32) (0 : Int32) (v := (-9999003)) (r3_9 (f_bring3 (by rw [o1.2.2.1.1]; exact hu) (by rw [o1.2.2.1.1]; unfold m_X7_isFree; rw [if_neg hu, if_pos hfe]; decide)))
    refine hwS (A0 := A) (As := [.ref (xa 0), .int (9 : Int32), .int (rmJ x (uN (sU (pN z)))), .int (0 : Int32), .int (0 : Int32)]) (rest := []) (W1 := (wSp cy xa sa sb tr na ka z1)) (W2 := (wSp cy xa sa sb tr na ka z2)) hq hCF gw_L_call.more rfl hq_L_call ⟨Nat.le_of_ble_eq_true rfl, Nat.le_of_ble_eq_true rfl⟩ hG hF hP hD hS hA h_Sp rfl hl.1 rfl (Nat.le_of_ble_eq_true rfl) dL_refuses_824 ⟨by show _ ≤ 100; omega, by show _ ≤ 600; omega⟩ (fun H locs hP hD hS => ?_)
    refine lv_ldc (v := (-9999003 : Int32)) hx hb hown (hts _ (List.mem_cons_of_mem _ gc_21)) dL_refuses_827 ?_
    refine lv_icmp_ne (tgt := 1001) hx hb dL_refuses_829 (by decide) (fun q => absurd rfl q) (fun _ => ?_)
    refine lv_goto (tgt := 867) hx hb dL_refuses_832 (by decide) ?_
    refine W.widen (k := cells + 2) (n := slots + 12) (by omega) (by omega) ?_
    exact kk _ _ _ z2 hl o2 hP hD hS
  · refine lv_if_eq (tgt := 835) hx hb dL_refuses_814 (by decide) (fun _ => ?_) (fun q => absurd rfl q)
    refine lv_aload_n hx hb dL_refuses_835 rfl (lv_at hl 6 rfl) ?_
    refine lv_bipush (v := (8 : Int32)) hx hb dL_refuses_836 (by decide) ?_
    refine lv_iload hx hb dL_refuses_838 (lv_at hl 3 rfl) ?_
    refine lv_iload_n hx hb dL_refuses_840 rfl (lv_at hl 7 rfl) ?_
    refine lv_iconst (v := (5 : Int32)) hx hb dL_refuses_841 (by decide) ?_
    refine lv_irem hx hb dL_refuses_842 (by decide) ?_
    refine lv_iconst (v := (5 : Int32)) hx hb dL_refuses_843 (by decide) ?_
    obtain ⟨z2, o2, hq⟩ := cn_8 l hl0 D cy t xa sa sb tr na ka o1 (rmJ x (uN (sU (pN z)))) (rmJ x (5 : Int32)) (5 : Int32) (v := (-9999003)) (r3_8 (f_lend3 (by rw [o1.2.2.1.1]; exact hu) (holdI (rmJ_5 hx0)) (is_term ⟨by decide, by decide⟩) (Or.inl (by rw [o1.2.2.1.1]; unfold m_X7_isFree; rw [if_neg hu, if_neg hfe]))))
    refine hwS (A0 := A) (As := [.ref (xa 0), .int (8 : Int32), .int (rmJ x (uN (sU (pN z)))), .int (rmJ x (5 : Int32)), .int (5 : Int32)]) (rest := []) (W1 := (wSp cy xa sa sb tr na ka z1)) (W2 := (wSp cy xa sa sb tr na ka z2)) hq hCF gw_L_call.more rfl hq_L_call ⟨Nat.le_of_ble_eq_true rfl, Nat.le_of_ble_eq_true rfl⟩ hG hF hP hD hS hA h_Sp rfl hl.1 rfl (Nat.le_of_ble_eq_true rfl) dL_refuses_844 ⟨by show _ ≤ 100; omega, by show _ ≤ 600; omega⟩ (fun H locs hP hD hS => ?_)
    refine lv_ldc (v := (-9999003 : Int32)) hx hb hown (hts _ (List.mem_cons_of_mem _ gc_21)) dL_refuses_847 ?_
    refine lv_icmp_ne (tgt := 1001) hx hb dL_refuses_849 (by decide) (fun q => absurd rfl q) (fun _ => ?_)
    refine lv_aload_n hx hb dL_refuses_852 rfl (lv_at hl 6 rfl) ?_
    refine lv_bipush (v := (12 : Int32)) hx hb dL_refuses_853 (by decide) ?_
    refine lv_iload hx hb dL_refuses_855 (lv_at hl 3 rfl) ?_
    refine lv_iconst (v := (0 : Int32)) hx hb dL_refuses_857 (by decide) ?_
    refine lv_iconst (v := (0 : Int32)) hx hb dL_refuses_858 (by decide) ?_
    obtain ⟨z3, o3, hq⟩ := cn_12 l hl0 D cy t xa sa sb tr na ka o2 (rmJ x (uN (sU (pN z)))) (0 : Int32) (0 : Int32) (v := (-9999003)) (r3_12 (f_deliver3 (by rw [o2.2.2.1.1]; exact hu) (by rw [o2.2.2.1.1]; unfold m_X7_isFree; rw [if_neg hu, if_neg hfe])))
    refine hwS (A0 := A) (As := [.ref (xa 0), .int (12 : Int32), .int (rmJ x (uN (sU (pN z)))), .int (0 : Int32), .int (0 : Int32)]) (rest := []) (W1 := (wSp cy xa sa sb tr na ka z2)) (W2 := (wSp cy xa sa sb tr na ka z3)) hq hCF gw_L_call.more rfl hq_L_call ⟨Nat.le_of_ble_eq_true rfl, Nat.le_of_ble_eq_true rfl⟩ hG hF hP hD hS hA h_Sp rfl hl.1 rfl (Nat.le_of_ble_eq_true rfl) dL_refuses_859 ⟨by show _ ≤ 100; omega, by show _ ≤ 600; omega⟩ (fun H locs hP hD hS => ?_)
    refine lv_ldc (v := (-9999003 : Int32)) hx hb hown (hts _ (List.mem_cons_of_mem _ gc_21)) dL_refuses_862 ?_
    refine lv_icmp_ne (tgt := 1001) hx hb dL_refuses_864 (by decide) (fun q => absurd rfl q) (fun _ => ?_)
    refine W.widen (k := cells + 2) (n := slots + 12) (by omega) (by omega) ?_
    exact kk _ _ _ z3 hl o3 hP hD hS
set_option maxRecDepth 20000 in
theorem w_ref9 {p : Program} {l : Launch} {e : Env} {s : State} {m : MethodId} {below : List Frame} {meth : Method} {c : Code} {D : va_G} {cy : Nat → ClassId} {t : FxA} {A : Nat → Prop} {Q : State → Prop} {xa sa sb tr na : Nat → Nat} {ka : Nat → Nat → Nat} {z : SpT} {x fr : Int32} (C0 : LR p l s m meth c ([.ref (xa 0), .int x] : List Value).toArray cL_refuses 8 wc_refuses (some .boolean) D cy t A) (hx0 : 0 ≤ x.toInt) (h0 : OKz z) {T : Int} (g : SG T (pN z)) (hu : ¬ m_X7_has (sU (pN z)) (rmJ x (uN (sU (pN z)))) = 0) (nz : ¬ (uN (sU (pN z))) = 0) (hfr : (fr = 1 ∧ (uP (sU (pN z)) (rmJ x (uN (sU (pN z)))).toNatClampNeg) = (uO (sU (pN z)) (rmJ x (uN (sU (pN z)))).toNatClampNeg)) ∨ (fr = 0 ∧ ¬ (uP (sU (pN z)) (rmJ x (uN (sU (pN z)))).toNatClampNeg) = (uO (sU (pN z)) (rmJ x (uN (sU (pN z)))).toNatClampNeg))) {cells slots : Nat} (hc : cells + 6 ≤ 100) (hs : slots + 36 ≤ 600) {H : Heap} {locs : List Loc} {ls : Array Slot} {z1 : SpT} (hl : lv_has ls 8 [(7, .int fr), (6, .int (uQ (sU (pN z)) (rmJ x (uN (sU (pN z)))).toNatClampNeg)), (5, .int (uO (sU (pN z)) (rmJ x (uN (sU (pN z)))).toNatClampNeg)), (4, .int (rmJ x (uN (sU (pN z))))), (3, .int (1 : Int32)), (2, .int (uN (sU (pN z)))), (0, .ref (xa 0)), (1, .int x)]) (o1 : OKz z1 ∧ VIS z z1) (hP : va_P D vwCl (wSp cy xa sa sb tr na ka z1) H) (hD : va_D A (wSp cy xa sa sb tr na ka z1)) (hS : va_S A s.heap H locs)
    (kk : ∀ (ls : Array Slot) (H : Heap) (locs : List Loc) (z2 : SpT), lv_has ls 8 [(7, .int fr), (6, .int (uQ (sU (pN z)) (rmJ x (uN (sU (pN z)))).toNatClampNeg)), (5, .int (uO (sU (pN z)) (rmJ x (uN (sU (pN z)))).toNatClampNeg)), (4, .int (rmJ x (uN (sU (pN z))))), (3, .int (1 : Int32)), (2, .int (uN (sU (pN z)))), (0, .ref (xa 0)), (1, .int x)] → (OKz z2 ∧ VIS z z2) → va_P D vwCl (wSp cy xa sa sb tr na ka z2) H → va_D A (wSp cy xa sa sb tr na ka z2) → va_S A s.heap H locs → @Wx p l e ({ frames := 10, cells := 100, slots := 600, locals := 300 } : Room) s m ([.ref (xa 0), .int x] : List Value).toArray below meth c H locs (cells + 6) (slots + 36) Q (F0 m 969 ls [])) : @Wx p l e ({ frames := 10, cells := 100, slots := 600, locals := 300 } : Room) s m ([.ref (xa 0), .int x] : List Value).toArray below meth c H locs cells slots Q (F0 m 867 ls []) := by
  obtain ⟨hx, hb, hr, hlocks, hts, hown, hCF, hG, hF, hA, hl0⟩ := C0
  have u16 := h0.st.1
  have nh : m_X7_has (sU (pN z)) (uN (sU (pN z))) = 0 := no_has (Or.inr (Int.le_refl _))
  refine lv_aload_n hx hb dL_refuses_867 rfl (lv_at hl 6 rfl) ?_
  refine lv_bipush (v := (10 : Int32)) hx hb dL_refuses_868 (by decide) ?_
  refine lv_iload hx hb dL_refuses_870 (lv_at hl 3 rfl) ?_
  refine lv_iload hx hb dL_refuses_872 (lv_at hl 3 rfl) ?_
  refine lv_iconst (v := (0 : Int32)) hx hb dL_refuses_874 (by decide) ?_
  obtain ⟨z2, o2, hq⟩ := cn_10 l hl0 D cy t xa sa sb tr na ka o1 (rmJ x (uN (sU (pN z)))) (rmJ x (uN (sU (pN z)))) (0 : Int32) (v := (-9999003)) (r3_10 (f_exchange3 (by rw [o1.2.2.1.1]; exact hu)))
  refine hwS (A0 := A) (As := [.ref (xa 0), .int (10 : Int32), .int (rmJ x (uN (sU (pN z)))), .int (rmJ x (uN (sU (pN z)))), .int (0 : Int32)]) (rest := []) (W1 := (wSp cy xa sa sb tr na ka z1)) (W2 := (wSp cy xa sa sb tr na ka z2)) hq hCF gw_L_call.more rfl hq_L_call ⟨Nat.le_of_ble_eq_true rfl, Nat.le_of_ble_eq_true rfl⟩ hG hF hP hD hS hA h_Sp rfl hl.1 rfl (Nat.le_of_ble_eq_true rfl) dL_refuses_875 ⟨by show _ ≤ 100; omega, by show _ ≤ 600; omega⟩ (fun H locs hP hD hS => ?_)
  refine lv_ldc (v := (-9999003 : Int32)) hx hb hown (hts _ (List.mem_cons_of_mem _ gc_21)) dL_refuses_878 ?_
  refine lv_icmp_ne (tgt := 1001) hx hb dL_refuses_880 (by decide) (fun q => absurd rfl q) (fun _ => ?_)
  refine lv_aload_n hx hb dL_refuses_883 rfl (lv_at hl 6 rfl) ?_
  refine lv_bipush (v := (11 : Int32)) hx hb dL_refuses_884 (by decide) ?_
  refine lv_iconst (v := (4 : Int32)) hx hb dL_refuses_886 (by decide) ?_
  refine lv_iload hx hb dL_refuses_887 (lv_at hl 3 rfl) ?_
  refine lv_iconst (v := (5 : Int32)) hx hb dL_refuses_889 (by decide) ?_
  obtain ⟨z3, o3, hq⟩ := cn_11 l hl0 D cy t xa sa sb tr na ka o2 (4 : Int32) (rmJ x (uN (sU (pN z)))) (5 : Int32) (v := (-9999003)) (r3_11 (f_advance3 (by rw [o2.2.2.1.1]; exact hu) (is_term ⟨by decide, by decide⟩)))
  refine hwS (A0 := A) (As := [.ref (xa 0), .int (11 : Int32), .int (4 : Int32), .int (rmJ x (uN (sU (pN z)))), .int (5 : Int32)]) (rest := []) (W1 := (wSp cy xa sa sb tr na ka z2)) (W2 := (wSp cy xa sa sb tr na ka z3)) hq hCF gw_L_call.more rfl hq_L_call ⟨Nat.le_of_ble_eq_true rfl, Nat.le_of_ble_eq_true rfl⟩ hG hF hP hD hS hA h_Sp rfl hl.1 rfl (Nat.le_of_ble_eq_true rfl) dL_refuses_890 ⟨by show _ ≤ 100; omega, by show _ ≤ 600; omega⟩ (fun H locs hP hD hS => ?_)
  refine lv_ldc (v := (-9999003 : Int32)) hx hb hown (hts _ (List.mem_cons_of_mem _ gc_21)) dL_refuses_893 ?_
  refine lv_icmp_ne (tgt := 1001) hx hb dL_refuses_895 (by decide) (fun q => absurd rfl q) (fun _ => ?_)
  refine lv_aload_n hx hb dL_refuses_898 rfl (lv_at hl 6 rfl) ?_
  refine lv_bipush (v := (11 : Int32)) hx hb dL_refuses_899 (by decide) ?_
  refine lv_iload_n hx hb dL_refuses_901 rfl (lv_at hl 7 rfl) ?_
  refine lv_iconst (v := (5 : Int32)) hx hb dL_refuses_902 (by decide) ?_
  refine lv_irem hx hb dL_refuses_903 (by decide) ?_
  refine lv_iload hx hb dL_refuses_904 (lv_at hl 3 rfl) ?_
  refine lv_iconst (v := (0 : Int32)) hx hb dL_refuses_906 (by decide) ?_
  obtain ⟨z4, o4, hq⟩ := cn_11 l hl0 D cy t xa sa sb tr na ka o3 (rmJ x (5 : Int32)) (rmJ x (uN (sU (pN z)))) (0 : Int32) (v := (-9999002)) (r2_11 (f_advance2 (holdI (rmJ_5 hx0)) (by rw [o3.2.2.1.1]; exact hu) (no_term (Or.inl (by decide)))))
  refine hwS (A0 := A) (As := [.ref (xa 0), .int (11 : Int32), .int (rmJ x (5 : Int32)), .int (rmJ x (uN (sU (pN z)))), .int (0 : Int32)]) (rest := []) (W1 := (wSp cy xa sa sb tr na ka z3)) (W2 := (wSp cy xa sa sb tr na ka z4)) hq hCF gw_L_call.more rfl hq_L_call ⟨Nat.le_of_ble_eq_true rfl, Nat.le_of_ble_eq_true rfl⟩ hG hF hP hD hS hA h_Sp rfl hl.1 rfl (Nat.le_of_ble_eq_true rfl) dL_refuses_907 ⟨by show _ ≤ 100; omega, by show _ ≤ 600; omega⟩ (fun H locs hP hD hS => ?_)
  refine lv_ldc (v := (-9999002 : Int32)) hx hb hown (hts _ (List.mem_cons_of_mem _ gc_28)) dL_refuses_910 ?_
  refine lv_icmp_ne (tgt := 1001) hx hb dL_refuses_912 (by decide) (fun q => absurd rfl q) (fun _ => ?_)
  refine lv_aload_n hx hb dL_refuses_915 rfl (lv_at hl 6 rfl) ?_
  refine lv_bipush (v := (13 : Int32)) hx hb dL_refuses_916 (by decide) ?_
  refine lv_iload hx hb dL_refuses_918 (lv_at hl 3 rfl) ?_
  refine lv_iload hx hb dL_refuses_920 (lv_at hl 3 rfl) ?_
  refine lv_iload_n hx hb dL_refuses_922 rfl (lv_at hl 7 rfl) ?_
  refine lv_iconst (v := (3 : Int32)) hx hb dL_refuses_923 (by decide) ?_
  refine lv_irem hx hb dL_refuses_924 (by decide) ?_
  obtain ⟨z5, o5, hq⟩ := cn_13 l hl0 D cy t xa sa sb tr na ka o4 (rmJ x (uN (sU (pN z)))) (rmJ x (uN (sU (pN z)))) (rmJ x (3 : Int32)) (v := (-9999003)) (r3_13 (f_take3 (by rw [o4.2.2.1.1]; exact hu) (is_part (rmJ_3 hx0))))
  refine hwS (A0 := A) (As := [.ref (xa 0), .int (13 : Int32), .int (rmJ x (uN (sU (pN z)))), .int (rmJ x (uN (sU (pN z)))), .int (rmJ x (3 : Int32))]) (rest := []) (W1 := (wSp cy xa sa sb tr na ka z4)) (W2 := (wSp cy xa sa sb tr na ka z5)) hq hCF gw_L_call.more rfl hq_L_call ⟨Nat.le_of_ble_eq_true rfl, Nat.le_of_ble_eq_true rfl⟩ hG hF hP hD hS hA h_Sp rfl hl.1 rfl (Nat.le_of_ble_eq_true rfl) dL_refuses_925 ⟨by show _ ≤ 100; omega, by show _ ≤ 600; omega⟩ (fun H locs hP hD hS => ?_)
  refine lv_ldc (v := (-9999003 : Int32)) hx hb hown (hts _ (List.mem_cons_of_mem _ gc_21)) dL_refuses_928 ?_
  refine lv_icmp_ne (tgt := 1001) hx hb dL_refuses_930 (by decide) (fun q => absurd rfl q) (fun _ => ?_)
  refine lv_aload_n hx hb dL_refuses_933 rfl (lv_at hl 6 rfl) ?_
  refine lv_bipush (v := (13 : Int32)) hx hb dL_refuses_934 (by decide) ?_
  refine lv_iload hx hb dL_refuses_936 (lv_at hl 3 rfl) ?_
  refine lv_iload hx hb dL_refuses_938 (lv_at hl 3 rfl) ?_
  refine lv_iconst (v := (3 : Int32)) hx hb dL_refuses_940 (by decide) ?_
  refine lv_iload_n hx hb dL_refuses_941 rfl (lv_at hl 7 rfl) ?_
  refine lv_bipush (v := (9 : Int32)) hx hb dL_refuses_942 (by decide) ?_
  refine lv_irem hx hb dL_refuses_944 (by decide) ?_
  refine lv_iadd hx hb dL_refuses_945 ?_
  obtain ⟨z6, o6, hq⟩ := cn_13 l hl0 D cy t xa sa sb tr na ka o5 (rmJ x (uN (sU (pN z)))) (rmJ x (uN (sU (pN z)))) ((3 : Int32) + (rmJ x (9 : Int32))) (v := (-9999001)) (r1_13 (f_take1 (Or.inr (Or.inr (no_part (Or.inr (add9 (k := (3 : Int32)) hx0 (K := 3) (by decide) (by decide)).1))))))
  refine hwS (A0 := A) (As := [.ref (xa 0), .int (13 : Int32), .int (rmJ x (uN (sU (pN z)))), .int (rmJ x (uN (sU (pN z)))), .int ((3 : Int32) + (rmJ x (9 : Int32)))]) (rest := []) (W1 := (wSp cy xa sa sb tr na ka z5)) (W2 := (wSp cy xa sa sb tr na ka z6)) hq hCF gw_L_call.more rfl hq_L_call ⟨Nat.le_of_ble_eq_true rfl, Nat.le_of_ble_eq_true rfl⟩ hG hF hP hD hS hA h_Sp rfl hl.1 rfl (Nat.le_of_ble_eq_true rfl) dL_refuses_946 ⟨by show _ ≤ 100; omega, by show _ ≤ 600; omega⟩ (fun H locs hP hD hS => ?_)
  refine lv_ldc (v := (-9999001 : Int32)) hx hb hown (hts _ (List.mem_cons_of_mem _ gc_15)) dL_refuses_949 ?_
  refine lv_icmp_ne (tgt := 1001) hx hb dL_refuses_951 (by decide) (fun q => absurd rfl q) (fun _ => ?_)
  refine lv_aload_n hx hb dL_refuses_954 rfl (lv_at hl 6 rfl) ?_
  refine lv_bipush (v := (14 : Int32)) hx hb dL_refuses_955 (by decide) ?_
  refine lv_iload hx hb dL_refuses_957 (lv_at hl 3 rfl) ?_
  refine lv_iconst (v := (3 : Int32)) hx hb dL_refuses_959 (by decide) ?_
  refine lv_iconst (v := (0 : Int32)) hx hb dL_refuses_960 (by decide) ?_
  obtain ⟨z7, o7, hq⟩ := cn_14 l hl0 D cy t xa sa sb tr na ka o6 (rmJ x (uN (sU (pN z)))) (3 : Int32) (0 : Int32) (v := (-9999001)) (r1_14 (f_buy1 (Or.inr (no_part (by decide)))))
  refine hwS (A0 := A) (As := [.ref (xa 0), .int (14 : Int32), .int (rmJ x (uN (sU (pN z)))), .int (3 : Int32), .int (0 : Int32)]) (rest := []) (W1 := (wSp cy xa sa sb tr na ka z6)) (W2 := (wSp cy xa sa sb tr na ka z7)) hq hCF gw_L_call.more rfl hq_L_call ⟨Nat.le_of_ble_eq_true rfl, Nat.le_of_ble_eq_true rfl⟩ hG hF hP hD hS hA h_Sp rfl hl.1 rfl (Nat.le_of_ble_eq_true rfl) dL_refuses_961 ⟨by show _ ≤ 100; omega, by show _ ≤ 600; omega⟩ (fun H locs hP hD hS => ?_)
  refine lv_ldc (v := (-9999001 : Int32)) hx hb hown (hts _ (List.mem_cons_of_mem _ gc_15)) dL_refuses_964 ?_
  refine lv_icmp_ne (tgt := 1001) hx hb dL_refuses_966 (by decide) (fun q => absurd rfl q) (fun _ => ?_)
  refine W.widen (k := cells + 6) (n := slots + 36) (by omega) (by omega) ?_
  exact kk _ _ _ z7 hl o7 hP hD hS
