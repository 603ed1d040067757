/-! p35: holds: the first due; the end -/
theorem tn_inj {a b : Int32} (h1 : 0 ≤ a.toInt) (h2 : 0 ≤ b.toInt) (e : a.toNatClampNeg = b.toNatClampNeg) : a = b := i32_eq (by rw [tnc_d, tnc_d] at e; omega)
/-- the first due is brought -/
theorem bring_go {z : SpT} {f : Int32} (o : OKz z) {T : Int} (g : SG T (pN z)) (hf : ¬ m_X7_has (sU (pN z)) f = 0) (nf : m_X7_isFree (sU (pN z)) f = 0) : 0 ≤ (m_X5_tryBring (pN z) f).1.toInt ∧ (m_X5_tryBring (pN z) f).1 = m_X5_feesFor (pN z) f 0 ∧ sA (m_X5_tryBring (pN z) f).2 (uO (sU (pN z)) f.toNatClampNeg).toNatClampNeg = sA (pN z) (uO (sU (pN z)) f.toNatClampNeg).toNatClampNeg + m_X5_feesFor (pN z) f 0 ∧ uP (sU (m_X5_tryBring (pN z) f).2) f.toNatClampNeg = uO (sU (pN z)) f.toNatClampNeg ∧ uN (sU (m_X5_tryBring (pN z) f).2) = uN (sU (pN z)) := by
  have lt := has_lt hf o.st.1
  have gv := g.2.2.2 _ lt
  have ne : ¬ uP (sU (pN z)) f.toNatClampNeg = uO (sU (pN z)) f.toNatClampNeg := fun e => by
    unfold m_X7_isFree at nf
    rw [if_neg hf, if_pos e] at nf
    exact absurd nf (by decide)
  have nn : ¬ (uO (sU (pN z)) f.toNatClampNeg).toNatClampNeg = (uP (sU (pN z)) f.toNatClampNeg).toNatClampNeg := fun e => ne (tn_inj gv.2.1 gv.1.1 e.symm)
  have ou := ou_bring (x1 := f) o
  have t2 : (m_X5_tryBring (pN z) f).1 = m_X5_feesFor (pN z) f 0 ∧ sA (m_X5_tryBring (pN z) f).2 (uO (sU (pN z)) f.toNatClampNeg).toNatClampNeg = sA (pN z) (uO (sU (pN z)) f.toNatClampNeg).toNatClampNeg + m_X5_feesFor (pN z) f 0 ∧ uP (sU (m_X5_tryBring (pN z) f).2) f.toNatClampNeg = uO (sU (pN z)) f.toNatClampNeg ∧ uN (sU (m_X5_tryBring (pN z) f).2) = uN (sU (pN z)) := by
    unfold m_X5_tryBring
    rw [if_neg hf, if_pos nf]
    refine ⟨rfl, ?_, ?_, ?_⟩
    · show sA (m_X5_pay (pN z) _ _ _) _ = _
      unfold m_X5_pay
      rw [if_neg (holdI gv.2), if_neg (holdI gv.1)]
      show upd (upd (sA (pN z)) _ _) _ _ _ = _
      unfold upd
      rw [if_pos rfl, if_neg nn]
    · show uP (m_X7_giveTo (sU (m_X5_pay _ _ _ _)) f _) f.toNatClampNeg = _
      rw [pay_U]
      unfold m_X7_giveTo
      rw [if_neg hf]
      show upd _ _ _ _ = _
      unfold upd
      rw [if_pos rfl]
    · show uN (m_X7_giveTo (sU (m_X5_pay _ _ _ _)) f _) = _
      rw [un_giveTo, pay_U]
  refine ⟨?_, t2⟩
  rcases ou with q | ⟨q, -⟩
  · exact q
  · exfalso
    have k := t2.2.2.1
    rw [q] at k
    exact ne k
theorem due_go {T : Int} {z : SpT} (ok : OK2 T z) (h0 : 100000 ≤ T) (h1 : T ≤ 990000) (hf : ¬ m_X7_has (sU (pN z)) (m_X7_dueFirst (sU (pN z))) = 0) (nf : m_X7_isFree (sU (pN z)) (m_X7_dueFirst (sU (pN z))) = 0) :
    kV (callP z 9 (m_X7_dueFirst (sU (pN z))) 0 0) = m_X5_feesFor (pN z) (m_X7_dueFirst (sU (pN z))) 0 ∧ sA (pN (callP z 9 (m_X7_dueFirst (sU (pN z))) 0 0).2.2) (uO (sU (pN z)) (m_X7_dueFirst (sU (pN z))).toNatClampNeg).toNatClampNeg = sA (pN z) (uO (sU (pN z)) (m_X7_dueFirst (sU (pN z))).toNatClampNeg).toNatClampNeg + m_X5_feesFor (pN z) (m_X7_dueFirst (sU (pN z))) 0 ∧ uP (sU (pN (callP z 9 (m_X7_dueFirst (sU (pN z))) 0 0).2.2)) (m_X7_dueFirst (sU (pN z))).toNatClampNeg = uO (sU (pN z)) (m_X7_dueFirst (sU (pN z))).toNatClampNeg ∧ ¬ m_X7_has (sU (pN (callP z 9 (m_X7_dueFirst (sU (pN z))) 0 0).2.2)) (m_X7_dueFirst (sU (pN z))) = 0 ∧ OK2 (T + 99) (callP z 9 (m_X7_dueFirst (sU (pN z))) 0 0).2.2 ∧ TQ (pN z) 1 (callP z 9 (m_X7_dueFirst (sU (pN z))) 0 0).2.2 := by
  have o := ok.oz h0 (by omega)
  have c := ok.call h0 (by omega) 9 (by decide) (m_X7_dueFirst (sU (pN z))) 0 0
  obtain ⟨t1, t2, t3, t4, t5⟩ := bring_go o ok.2.1 hf nf
  generalize hf9 : m_X7_dueFirst (sU (pN z)) = f at *
  have q0 : TQ (pN z) 0 z := ⟨Nat.zero_le _, fun _ => rfl, fun e => absurd e (by decide)⟩
  have q := q0.fin (by decide) o.hi t1
  have fk := fin_ok (z := z) t1
  rw [cp_9, fn_bring] at c ⊢
  refine ⟨?_, ?_, ?_, ?_, c, q⟩
  · rw [fk, kV_ok]; exact t2
  · rw [fk]; exact t3
  · rw [fk]; exact t4
  · rw [fk]
    show ¬ m_X7_has (sU (m_X5_tryBring (pN z) f).2) f = 0
    unfold m_X7_has
    rw [t5]
    exact hf
set_option maxRecDepth 20000 in
theorem w_h10 {p : Program} {l : Launch} {e : Env} {s : State} {m : MethodId} {below : List Frame} {meth : Method} {c : Code} {D : va_G} {cy : Nat → ClassId} {t : FxA} {A : Nat → Prop} {Q : State → Prop} {xa sa sb tr na : Nat → Nat} {ka : Nat → Nat → Nat} {x : Int32} (C0 : LR p l s m meth c ([.ref (xa 0), .int x] : List Value).toArray cL_holds 28 wc_holds (some .boolean) D cy t A) {z : SpT} (oz : OKz z) {T : Int} (ok : OK2 T z) (h0 : 100000 ≤ T) (h1 : T ≤ 990000) {tk can kd h n9 : Int32} {cells slots : Nat} (hc : cells + 9 ≤ 3000) (hs : slots + 54 ≤ 18000) {H : Heap} {locs : List Loc} {ls : Array Slot} (hl : lv_has ls 28 [(15, .int tk), (14, .int can), (13, .int kd), (12, .int h), (11, .int (1 : Int32)), (2, .int n9), (0, .ref (xa 0)), (1, .int x)]) (hP : va_P D vwCl (wSp cy xa sa sb tr na ka z) H) (hD : va_D A (wSp cy xa sa sb tr na ka z)) (hS : va_S A s.heap H locs) (kk : ∀ (ls : Array Slot) (H : Heap) (locs : List Loc), pN (duZ z) = pN z → OK2 (T + 198) (duZ z) → lv_has ls 28 [(15, .int tk), (14, .int can), (13, .int kd), (12, .int h), (11, .int (1 : Int32)), (2, .int n9), (0, .ref (xa 0)), (1, .int x)] → va_P D vwCl (wSp cy xa sa sb tr na ka (duZ z)) H → va_D A (wSp cy xa sa sb tr na ka (duZ z)) → va_S A s.heap H locs → @Wx p l e ({ frames := 10, cells := 3000, slots := 18000, locals := 300 } : Room) s m ([.ref (xa 0), .int x] : List Value).toArray below meth c H locs (cells + 9) (slots + 54) Q (F0 m 1209 ls [])) : @Wx p l e ({ frames := 10, cells := 3000, slots := 18000, locals := 300 } : Room) s m ([.ref (xa 0), .int x] : List Value).toArray below meth c H locs cells slots Q (F0 m 1080 ls []) := by
  obtain ⟨hx, hb, hr, hlocks, hts, hown, hCF, hG, hF, hA, hl0⟩ := C0
  refine lv_aload_n hx hb dL_holds_1080 rfl (lv_at hl 6 rfl) ?_
  refine fwV (ci := 6) (A0 := A) (As := []) (rest := []) (W1 := (wSp cy xa sa sb tr na ka z)) (W2 := (wSp cy xa sa sb tr na ka z)) (c_X8_firstDue l D cy t xa sa sb tr na ka z oz.st) hCF gw_X8_firstDue.more rfl hq_X8_firstDue ⟨rfl, rfl, Nat.le_of_ble_eq_true rfl, Nat.le_of_ble_eq_true rfl⟩ hG hF hP hD hS hA rfl rfl rfl (List.mem_of_getElem? g_Sp_0) rfl hl.1 rfl (Nat.le_of_ble_eq_true rfl) dL_holds_1081 ⟨by show _ ≤ 3000; omega, by show _ ≤ 18000; omega⟩ (fun H locs hP hD hS => ?_)
  refine lv_istore (lv' := [(19, .int (m_X7_dueFirst (sU (pN z)))), (15, .int tk), (14, .int can), (13, .int kd), (12, .int h), (11, .int (1 : Int32)), (2, .int n9), (0, .ref (xa 0)), (1, .int x)]) hx hb dL_holds_1084 hl (by decide) rfl (fun ls hl => ?_)
  refine lv_iload hx hb dL_holds_1086 (lv_at hl 0 rfl) ?_
  refine lv_iconst (v := (-1 : Int32)) hx hb dL_holds_1088 (by decide) ?_
  rcases due_fact oz.st.1 with ⟨d1, d2⟩ | ⟨d1, d2⟩
  · refine lv_icmp_eq (tgt := 1209) hx hb dL_holds_1089 (by decide) (fun _ => ?_) (fun q => absurd d1 q)
    have hl : lv_has ls 28 [(15, .int tk), (14, .int can), (13, .int kd), (12, .int h), (11, .int (1 : Int32)), (2, .int n9), (0, .ref (xa 0)), (1, .int x)] := lv_sub hl [1, 2, 3, 4, 5, 6, 7, 8] rfl
    have ez : duZ z = z := by unfold duZ; rw [if_pos d1]
    rw [ez] at kk
    refine W.widen (k := cells + 9) (n := slots + 54) (by omega) (by omega) ?_
    exact kk _ _ _ rfl (ok.up (by omega)) hl hP hD hS
  · have nd : ¬ (m_X7_dueFirst (sU (pN z))) = -1 := fun e9 => due_no d1.1 e9
    obtain ⟨b1, b2, b3, b4, b5, b6⟩ := due_go ok h0 h1 d1.1 d1.2
    have ez : duZ z = (callP ((callP z 9 (m_X7_dueFirst (sU (pN z))) 0 0).2.2) 17 0 0 0).2.2 := by unfold duZ; rw [if_neg nd]
    rw [ez] at kk
    have ho : iv 0 4 (uO (sU (pN z)) (m_X7_dueFirst (sU (pN z))).toNatClampNeg) := (ok.2.1.2.2.2 _ (has_lt d1.1 oz.st.1)).1
    refine lv_icmp_eq (tgt := 1209) hx hb dL_holds_1089 (by decide) (fun q => absurd q nd) (fun _ => ?_)
    refine lv_iload hx hb dL_holds_1092 (lv_at hl 5 rfl) ?_
    refine lv_if_eq (tgt := 1209) hx hb dL_holds_1094 (by decide) (fun q => absurd q (by decide)) (fun _ => ?_)
    have hq := cq_3 l hl0 D cy t xa sa sb tr na ka oz (m_X7_dueFirst (sU (pN z))) 5 0
    rw [(kv_unit (v := 0) d1.1).2.2.2.2] at hq
    refine lv_aload_n hx hb dL_holds_1097 rfl (lv_at hl 7 rfl) ?_
    refine lv_iconst (v := (3 : Int32)) hx hb dL_holds_1098 (by decide) ?_
    refine lv_iload hx hb dL_holds_1099 (lv_at hl 0 rfl) ?_
    refine lv_iconst (v := (5 : Int32)) hx hb dL_holds_1101 (by decide) ?_
    refine lv_iconst (v := (0 : Int32)) hx hb dL_holds_1102 (by decide) ?_
    refine hwS (A0 := A) (As := [.ref (xa 0), .int (3 : Int32), .int (m_X7_dueFirst (sU (pN z))), .int (5 : Int32), .int (0 : Int32)]) (rest := []) (W1 := (wSp cy xa sa sb tr na ka z)) (W2 := (wSp cy xa sa sb tr na ka z)) hq hCF gw_L_call.more rfl hq_L_call ⟨Nat.le_of_ble_eq_true rfl, Nat.le_of_ble_eq_true rfl⟩ hG hF hP hD hS hA rfl rfl hl.1 rfl (Nat.le_of_ble_eq_true rfl) dL_holds_1103 ⟨by show _ ≤ 3000; omega, by show _ ≤ 18000; omega⟩ (fun H locs hP hD hS => ?_)
    refine lv_istore (lv' := [(20, .int (m_X5_feesFor (pN z) (m_X7_dueFirst (sU (pN z))) (0 : Int32))), (19, .int (m_X7_dueFirst (sU (pN z)))), (15, .int tk), (14, .int can), (13, .int kd), (12, .int h), (11, .int (1 : Int32)), (2, .int n9), (0, .ref (xa 0)), (1, .int x)]) hx hb dL_holds_1106 hl (by decide) rfl (fun ls hl => ?_)
    refine lv_aload_n hx hb dL_holds_1108 rfl (lv_at hl 8 rfl) ?_
    refine lv_iconst (v := (3 : Int32)) hx hb dL_holds_1109 (by decide) ?_
    refine lv_iload hx hb dL_holds_1110 (lv_at hl 1 rfl) ?_
    refine lv_iconst (v := (1 : Int32)) hx hb dL_holds_1112 (by decide) ?_
    refine lv_iconst (v := (0 : Int32)) hx hb dL_holds_1113 (by decide) ?_
    have hq := cq_3 l hl0 D cy t xa sa sb tr na ka oz (m_X7_dueFirst (sU (pN z))) 1 0
    rw [(kv_unit (v := 0) d1.1).2.1] at hq
    refine hwS (A0 := A) (As := [.ref (xa 0), .int (3 : Int32), .int (m_X7_dueFirst (sU (pN z))), .int (1 : Int32), .int (0 : Int32)]) (rest := []) (W1 := (wSp cy xa sa sb tr na ka z)) (W2 := (wSp cy xa sa sb tr na ka z)) hq hCF gw_L_call.more rfl hq_L_call ⟨Nat.le_of_ble_eq_true rfl, Nat.le_of_ble_eq_true rfl⟩ hG hF hP hD hS hA rfl rfl hl.1 rfl (Nat.le_of_ble_eq_true rfl) dL_holds_1114 ⟨by show _ ≤ 3000; omega, by show _ ≤ 18000; omega⟩ (fun H locs hP hD hS => ?_)
    refine lv_istore (lv' := [(21, .int (uO (sU (pN z)) (m_X7_dueFirst (sU (pN z))).toNatClampNeg)), (20, .int (m_X5_feesFor (pN z) (m_X7_dueFirst (sU (pN z))) (0 : Int32))), (19, .int (m_X7_dueFirst (sU (pN z)))), (15, .int tk), (14, .int can), (13, .int kd), (12, .int h), (11, .int (1 : Int32)), (2, .int n9), (0, .ref (xa 0)), (1, .int x)]) hx hb dL_holds_1117 hl (by decide) rfl (fun ls hl => ?_)
    refine lv_aload_n hx hb dL_holds_1119 rfl (lv_at hl 9 rfl) ?_
    refine lv_iconst (v := (4 : Int32)) hx hb dL_holds_1120 (by decide) ?_
    refine lv_iload hx hb dL_holds_1121 (lv_at hl 0 rfl) ?_
    refine lv_iconst (v := (0 : Int32)) hx hb dL_holds_1123 (by decide) ?_
    refine lv_iconst (v := (0 : Int32)) hx hb dL_holds_1124 (by decide) ?_
    have hq := cq_4 l hl0 D cy t xa sa sb tr na ka oz (uO (sU (pN z)) (m_X7_dueFirst (sU (pN z))).toNatClampNeg) 0 0
    rw [kv_h0 (holdI ho)] at hq
    refine hwS (A0 := A) (As := [.ref (xa 0), .int (4 : Int32), .int (uO (sU (pN z)) (m_X7_dueFirst (sU (pN z))).toNatClampNeg), .int (0 : Int32), .int (0 : Int32)]) (rest := []) (W1 := (wSp cy xa sa sb tr na ka z)) (W2 := (wSp cy xa sa sb tr na ka z)) hq hCF gw_L_call.more rfl hq_L_call ⟨Nat.le_of_ble_eq_true rfl, Nat.le_of_ble_eq_true rfl⟩ hG hF hP hD hS hA rfl rfl hl.1 rfl (Nat.le_of_ble_eq_true rfl) dL_holds_1125 ⟨by show _ ≤ 3000; omega, by show _ ≤ 18000; omega⟩ (fun H locs hP hD hS => ?_)
    refine lv_istore (lv' := [(22, .int (sA (pN z) (uO (sU (pN z)) (m_X7_dueFirst (sU (pN z))).toNatClampNeg).toNatClampNeg)), (21, .int (uO (sU (pN z)) (m_X7_dueFirst (sU (pN z))).toNatClampNeg)), (20, .int (m_X5_feesFor (pN z) (m_X7_dueFirst (sU (pN z))) (0 : Int32))), (19, .int (m_X7_dueFirst (sU (pN z)))), (15, .int tk), (14, .int can), (13, .int kd), (12, .int h), (11, .int (1 : Int32)), (2, .int n9), (0, .ref (xa 0)), (1, .int x)]) hx hb dL_holds_1128 hl (by decide) rfl (fun ls hl => ?_)
    refine lv_aload_n hx hb dL_holds_1130 rfl (lv_at hl 10 rfl) ?_
    refine lv_bipush (v := (9 : Int32)) hx hb dL_holds_1131 (by decide) ?_
    refine lv_iload hx hb dL_holds_1133 (lv_at hl 3 rfl) ?_
    refine lv_iconst (v := (0 : Int32)) hx hb dL_holds_1135 (by decide) ?_
    refine lv_iconst (v := (0 : Int32)) hx hb dL_holds_1136 (by decide) ?_
    have hq := c_L_call_9 l hl0 D cy t xa sa sb tr na ka oz (m_X7_dueFirst (sU (pN z))) 0 0
    rw [b1] at hq
    refine hwS (A0 := A) (As := [.ref (xa 0), .int (9 : Int32), .int (m_X7_dueFirst (sU (pN z))), .int (0 : Int32), .int (0 : Int32)]) (rest := []) (W1 := (wSp cy xa sa sb tr na ka z)) (W2 := (wSp cy xa sa sb tr na ka ((callP z 9 (m_X7_dueFirst (sU (pN z))) 0 0).2.2))) hq hCF gw_L_call.more rfl hq_L_call ⟨Nat.le_of_ble_eq_true rfl, Nat.le_of_ble_eq_true rfl⟩ hG hF hP hD hS hA h_Sp rfl hl.1 rfl (Nat.le_of_ble_eq_true rfl) dL_holds_1137 ⟨by show _ ≤ 3000; omega, by show _ ≤ 18000; omega⟩ (fun H locs hP hD hS => ?_)
    refine lv_iload hx hb dL_holds_1140 (lv_at hl 2 rfl) ?_
    refine lv_icmp_ne (tgt := 1206) hx hb dL_holds_1142 (by decide) (fun q => absurd rfl q) (fun _ => ?_)
    have o1 : OKz ((callP z 9 (m_X7_dueFirst (sU (pN z))) 0 0).2.2) := b5.oz (by omega) (by omega)
    generalize (callP z 9 (m_X7_dueFirst (sU (pN z))) 0 0).2.2 = z1 at *
    have hq := cq_4 l hl0 D cy t xa sa sb tr na ka o1 (uO (sU (pN z)) (m_X7_dueFirst (sU (pN z))).toNatClampNeg) 0 0
    rw [kv_h0 (holdI ho), b2] at hq
    refine lv_aload_n hx hb dL_holds_1145 rfl (lv_at hl 10 rfl) ?_
    refine lv_iconst (v := (4 : Int32)) hx hb dL_holds_1146 (by decide) ?_
    refine lv_iload hx hb dL_holds_1147 (lv_at hl 1 rfl) ?_
    refine lv_iconst (v := (0 : Int32)) hx hb dL_holds_1149 (by decide) ?_
    refine lv_iconst (v := (0 : Int32)) hx hb dL_holds_1150 (by decide) ?_
    refine hwS (A0 := A) (As := [.ref (xa 0), .int (4 : Int32), .int (uO (sU (pN z)) (m_X7_dueFirst (sU (pN z))).toNatClampNeg), .int (0 : Int32), .int (0 : Int32)]) (rest := []) (W1 := (wSp cy xa sa sb tr na ka z1)) (W2 := (wSp cy xa sa sb tr na ka z1)) hq hCF gw_L_call.more rfl hq_L_call ⟨Nat.le_of_ble_eq_true rfl, Nat.le_of_ble_eq_true rfl⟩ hG hF hP hD hS hA rfl rfl hl.1 rfl (Nat.le_of_ble_eq_true rfl) dL_holds_1151 ⟨by show _ ≤ 3000; omega, by show _ ≤ 18000; omega⟩ (fun H locs hP hD hS => ?_)
    refine lv_iload hx hb dL_holds_1154 (lv_at hl 0 rfl) ?_
    refine lv_iload hx hb dL_holds_1156 (lv_at hl 2 rfl) ?_
    refine lv_iadd hx hb dL_holds_1158 ?_
    refine lv_icmp_ne (tgt := 1206) hx hb dL_holds_1159 (by decide) (fun q => absurd rfl q) (fun _ => ?_)
    have hq := cq_3 l hl0 D cy t xa sa sb tr na ka o1 (m_X7_dueFirst (sU (pN z))) 2 0
    rw [(kv_unit (v := 0) b4).2.2.1, b3] at hq
    refine lv_aload_n hx hb dL_holds_1162 rfl (lv_at hl 10 rfl) ?_
    refine lv_iconst (v := (3 : Int32)) hx hb dL_holds_1163 (by decide) ?_
    refine lv_iload hx hb dL_holds_1164 (lv_at hl 3 rfl) ?_
    refine lv_iconst (v := (2 : Int32)) hx hb dL_holds_1166 (by decide) ?_
    refine lv_iconst (v := (0 : Int32)) hx hb dL_holds_1167 (by decide) ?_
    refine hwS (A0 := A) (As := [.ref (xa 0), .int (3 : Int32), .int (m_X7_dueFirst (sU (pN z))), .int (2 : Int32), .int (0 : Int32)]) (rest := []) (W1 := (wSp cy xa sa sb tr na ka z1)) (W2 := (wSp cy xa sa sb tr na ka z1)) hq hCF gw_L_call.more rfl hq_L_call ⟨Nat.le_of_ble_eq_true rfl, Nat.le_of_ble_eq_true rfl⟩ hG hF hP hD hS hA rfl rfl hl.1 rfl (Nat.le_of_ble_eq_true rfl) dL_holds_1168 ⟨by show _ ≤ 3000; omega, by show _ ≤ 18000; omega⟩ (fun H locs hP hD hS => ?_)
    refine lv_iload hx hb dL_holds_1171 (lv_at hl 1 rfl) ?_
    refine lv_icmp_ne (tgt := 1206) hx hb dL_holds_1173 (by decide) (fun q => absurd rfl q) (fun _ => ?_)
    obtain ⟨u1, u2⟩ := b6.undo o1.hi
    have ok3 := b5.call (by omega) (by omega) 17 (by decide) 0 0 0
    have hq := c_L_call_17 l hl0 D cy t xa sa sb tr na ka o1 0 0 0
    refine lv_aload_n hx hb dL_holds_1176 rfl (lv_at hl 10 rfl) ?_
    refine lv_bipush (v := (17 : Int32)) hx hb dL_holds_1177 (by decide) ?_
    refine lv_iconst (v := (0 : Int32)) hx hb dL_holds_1179 (by decide) ?_
    refine lv_iconst (v := (0 : Int32)) hx hb dL_holds_1180 (by decide) ?_
    refine lv_iconst (v := (0 : Int32)) hx hb dL_holds_1181 (by decide) ?_
    refine hwS (A0 := A) (As := [.ref (xa 0), .int (17 : Int32), .int (0 : Int32), .int (0 : Int32), .int (0 : Int32)]) (rest := []) (W1 := (wSp cy xa sa sb tr na ka z1)) (W2 := (wSp cy xa sa sb tr na ka (callP z1 17 0 0 0).2.2)) hq hCF gw_L_call.more rfl hq_L_call ⟨Nat.le_of_ble_eq_true rfl, Nat.le_of_ble_eq_true rfl⟩ hG hF hP hD hS hA h_Sp rfl hl.1 rfl (Nat.le_of_ble_eq_true rfl) dL_holds_1182 ⟨by show _ ≤ 3000; omega, by show _ ≤ 18000; omega⟩ (fun H locs hP hD hS => ?_)
    refine lv_if_lt (tgt := 1206) hx hb dL_holds_1185 (by decide) (fun q => absurd q (by rw [i32_lt, i32_0]; omega)) (fun _ => ?_)
    have o2 : OKz (callP z1 17 0 0 0).2.2 := ok3.oz (by omega) (by omega)
    have e2 : pN (callP z1 17 0 0 0).2.2 = pN z := u2.2.1 rfl
    generalize (callP z1 17 0 0 0).2.2 = z2 at *
    have hq := cq_4 l hl0 D cy t xa sa sb tr na ka o2 (uO (sU (pN z)) (m_X7_dueFirst (sU (pN z))).toNatClampNeg) 0 0
    rw [kv_h0 (holdI ho), e2] at hq
    refine lv_aload_n hx hb dL_holds_1188 rfl (lv_at hl 10 rfl) ?_
    refine lv_iconst (v := (4 : Int32)) hx hb dL_holds_1189 (by decide) ?_
    refine lv_iload hx hb dL_holds_1190 (lv_at hl 1 rfl) ?_
    refine lv_iconst (v := (0 : Int32)) hx hb dL_holds_1192 (by decide) ?_
    refine lv_iconst (v := (0 : Int32)) hx hb dL_holds_1193 (by decide) ?_
    refine hwS (A0 := A) (As := [.ref (xa 0), .int (4 : Int32), .int (uO (sU (pN z)) (m_X7_dueFirst (sU (pN z))).toNatClampNeg), .int (0 : Int32), .int (0 : Int32)]) (rest := []) (W1 := (wSp cy xa sa sb tr na ka z2)) (W2 := (wSp cy xa sa sb tr na ka z2)) hq hCF gw_L_call.more rfl hq_L_call ⟨Nat.le_of_ble_eq_true rfl, Nat.le_of_ble_eq_true rfl⟩ hG hF hP hD hS hA rfl rfl hl.1 rfl (Nat.le_of_ble_eq_true rfl) dL_holds_1194 ⟨by show _ ≤ 3000; omega, by show _ ≤ 18000; omega⟩ (fun H locs hP hD hS => ?_)
    refine lv_iload hx hb dL_holds_1197 (lv_at hl 0 rfl) ?_
    refine lv_icmp_ne (tgt := 1206) hx hb dL_holds_1199 (by decide) (fun q => absurd rfl q) (fun _ => ?_)
    refine lv_iconst (v := (1 : Int32)) hx hb dL_holds_1202 (by decide) ?_
    refine lv_goto (tgt := 1207) hx hb dL_holds_1203 (by decide) ?_
    refine lv_istore (lv' := [(11, .int (1 : Int32)), (22, .int (sA (pN z) (uO (sU (pN z)) (m_X7_dueFirst (sU (pN z))).toNatClampNeg).toNatClampNeg)), (21, .int (uO (sU (pN z)) (m_X7_dueFirst (sU (pN z))).toNatClampNeg)), (20, .int (m_X5_feesFor (pN z) (m_X7_dueFirst (sU (pN z))) (0 : Int32))), (19, .int (m_X7_dueFirst (sU (pN z)))), (15, .int tk), (14, .int can), (13, .int kd), (12, .int h), (2, .int n9), (0, .ref (xa 0)), (1, .int x)]) hx hb dL_holds_1207 hl (by decide) rfl (fun ls hl => ?_)
    have hl : lv_has ls 28 [(15, .int tk), (14, .int can), (13, .int kd), (12, .int h), (11, .int (1 : Int32)), (2, .int n9), (0, .ref (xa 0)), (1, .int x)] := lv_sub hl [5, 6, 7, 8, 0, 9, 10, 11] rfl
    refine W.widen (k := cells + 9) (n := slots + 54) (by omega) (by omega) ?_
    exact kk _ _ _ e2 (ok3.up (by omega)) hl hP hD hS
set_option maxRecDepth 20000 in
theorem w_h11 {p : Program} {l : Launch} {e : Env} {s : State} {m : MethodId} {below : List Frame} {meth : Method} {c : Code} {D : va_G} {cy : Nat → ClassId} {t : FxA} {A : Nat → Prop} {xa sa sb tr na : Nat → Nat} {ka : Nat → Nat → Nat} {x : Int32} (C0 : LR p l s m meth c ([.ref (xa 0), .int x] : List Value).toArray cL_holds 28 wc_holds (some .boolean) D cy t A) {z : SpT} (oz : OKz z) {tk can kd h n9 : Int32} (ih : iv 0 4 h) (ik : iv 0 2 kd) (e1 : can = m_X7_mostCompleted (sU (pN z)) h kd) (e2 : tk = m_X7_fewestTakings (sU (pN z)) h kd) {cells slots : Nat} (hc : cells + 2 ≤ 3000) (hs : slots + 12 ≤ 18000) {H : Heap} {locs : List Loc} {ls : Array Slot} (hl : lv_has ls 28 [(15, .int tk), (14, .int can), (13, .int kd), (12, .int h), (11, .int (1 : Int32)), (2, .int n9), (0, .ref (xa 0)), (1, .int x)]) (hP : va_P D vwCl (wSp cy xa sa sb tr na ka z) H) (hD : va_D A (wSp cy xa sa sb tr na ka z)) (hS : va_S A s.heap H locs) : @Wx p l e ({ frames := 10, cells := 3000, slots := 18000, locals := 300 } : Room) s m ([.ref (xa 0), .int x] : List Value).toArray below meth c H locs cells slots (MQ below (va_Qi (fun r (_ : Unit) => r = 1) (fun _ t => va_P D vwCl (wSp cy xa sa sb tr na ka z) t.heap) A) ([.ref (xa 0), .int x] : List Value).toArray s 3000 18000 A) (F0 m 1209 ls []) := by
  obtain ⟨hx, hb, hr, hlocks, hts, hown, hCF, hG, hF, hA, hl0⟩ := C0
  refine lv_iload hx hb dL_holds_1209 (lv_at hl 4 rfl) ?_
  refine lv_if_eq (tgt := 1250) hx hb dL_holds_1211 (by decide) (fun q => absurd q (by decide)) (fun _ => ?_)
  have hq := cq_18 l hl0 D cy t xa sa sb tr na ka oz h kd 0
  rw [kv_18 (holdI ih) (is_kind ik), ← e1] at hq
  refine lv_aload_n hx hb dL_holds_1214 rfl (lv_at hl 6 rfl) ?_
  refine lv_bipush (v := (18 : Int32)) hx hb dL_holds_1215 (by decide) ?_
  refine lv_iload hx hb dL_holds_1217 (lv_at hl 3 rfl) ?_
  refine lv_iload hx hb dL_holds_1219 (lv_at hl 2 rfl) ?_
  refine lv_iconst (v := (0 : Int32)) hx hb dL_holds_1221 (by decide) ?_
  refine hwS (A0 := A) (As := [.ref (xa 0), .int (18 : Int32), .int h, .int kd, .int (0 : Int32)]) (rest := []) (W1 := (wSp cy xa sa sb tr na ka z)) (W2 := (wSp cy xa sa sb tr na ka z)) hq hCF gw_L_call.more rfl hq_L_call ⟨Nat.le_of_ble_eq_true rfl, Nat.le_of_ble_eq_true rfl⟩ hG hF hP hD hS hA rfl rfl hl.1 rfl (Nat.le_of_ble_eq_true rfl) dL_holds_1222 ⟨by show _ ≤ 3000; omega, by show _ ≤ 18000; omega⟩ (fun H locs hP hD hS => ?_)
  refine lv_iload hx hb dL_holds_1225 (lv_at hl 1 rfl) ?_
  refine lv_icmp_ne (tgt := 1250) hx hb dL_holds_1227 (by decide) (fun q => absurd rfl q) (fun _ => ?_)
  have hq := cq_19 l hl0 D cy t xa sa sb tr na ka oz h kd 0
  rw [kv_19 (holdI ih) (is_kind ik), ← e2] at hq
  refine lv_aload_n hx hb dL_holds_1230 rfl (lv_at hl 6 rfl) ?_
  refine lv_bipush (v := (19 : Int32)) hx hb dL_holds_1231 (by decide) ?_
  refine lv_iload hx hb dL_holds_1233 (lv_at hl 3 rfl) ?_
  refine lv_iload hx hb dL_holds_1235 (lv_at hl 2 rfl) ?_
  refine lv_iconst (v := (0 : Int32)) hx hb dL_holds_1237 (by decide) ?_
  refine hwS (A0 := A) (As := [.ref (xa 0), .int (19 : Int32), .int h, .int kd, .int (0 : Int32)]) (rest := []) (W1 := (wSp cy xa sa sb tr na ka z)) (W2 := (wSp cy xa sa sb tr na ka z)) hq hCF gw_L_call.more rfl hq_L_call ⟨Nat.le_of_ble_eq_true rfl, Nat.le_of_ble_eq_true rfl⟩ hG hF hP hD hS hA rfl rfl hl.1 rfl (Nat.le_of_ble_eq_true rfl) dL_holds_1238 ⟨by show _ ≤ 3000; omega, by show _ ≤ 18000; omega⟩ (fun H locs hP hD hS => ?_)
  refine lv_iload hx hb dL_holds_1241 (lv_at hl 0 rfl) ?_
  refine lv_icmp_ne (tgt := 1250) hx hb dL_holds_1243 (by decide) (fun q => absurd rfl q) (fun _ => ?_)
  refine lv_iconst (v := (1 : Int32)) hx hb dL_holds_1246 (by decide) ?_
  refine lv_goto (tgt := 1251) hx hb dL_holds_1247 (by decide) ?_
  exact hw_zret hx hb hr hlocks (by decide) hP hS (by omega) (by omega) dL_holds_1251 rfl rfl
