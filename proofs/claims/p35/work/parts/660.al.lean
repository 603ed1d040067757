/-! p35: alike -/
set_option maxRecDepth 20000 in
theorem w_al1 {p : Program} {l : Launch} {e : Env} {s : State} {m : MethodId} {below : List Frame} {meth : Method} {c : Code} {D : va_G} {cy : Nat → ClassId} {t : FxA} {A : Nat → Prop} {Q : State → Prop} {xa sa sb tr na : Nat → Nat} {ka : Nat → Nat → Nat} {xb sc sd ts nb : Nat → Nat} {kb : Nat → Nat → Nat} {z1 z2 : SpT} {x : Int32} (C0 : LR p l s m meth c ([.ref (xa 0), .ref (xb 0), .int x] : List Value).toArray cL_alike 6 wc_alike (some .boolean) D cy t A) (o1 : OKz z1 ∧ VIS z1 z1) (o2 : OKz z2 ∧ VIS z2 z2) (hq : ∀ k : Nat, k < 24 → ∀ a b c : Int32, kV (callP z1 k a b c) = kV (callP z2 k a b c)) (ho : ∀ a b c d : Int32, kV (m_X8_owed z1 a b c d) = kV (m_X8_owed z2 a b c d)) : ∀ (nF : Nat) (v : Int32), 0 ≤ v.toInt → 10 - v.toInt ≤ nF → ∀ {cells slots : Nat} (hc : cells + 4 * (nF + 1) ≤ 200) (hs : slots + 24 * (nF + 1) ≤ 1200) {H : Heap} {locs : List Loc} {ls : Array Slot} (hl : lv_has ls 6 [(4, .int v), (3, .int (1 : Int32)), (0, .ref (xa 0)), (1, .ref (xb 0)), (2, .int x)]) (hP : va_P D vwCl (wSp cy xa sa sb tr na ka z1 ++ wSp cy xb sc sd ts nb kb z2) H) (hD : va_D A (wSp cy xa sa sb tr na ka z1 ++ wSp cy xb sc sd ts nb kb z2)) (hS : va_S A s.heap H locs) (kk : ∀ (ls : Array Slot) (H : Heap) (locs : List Loc), lv_has ls 6 [(3, .int (1 : Int32)), (0, .ref (xa 0)), (1, .ref (xb 0)), (2, .int x)] → va_P D vwCl (wSp cy xa sa sb tr na ka z1 ++ wSp cy xb sc sd ts nb kb z2) H → va_D A (wSp cy xa sa sb tr na ka z1 ++ wSp cy xb sc sd ts nb kb z2) → va_S A s.heap H locs → @Wx p l e ({ frames := 10, cells := 200, slots := 1200, locals := 300 } : Room) s m ([.ref (xa 0), .ref (xb 0), .int x] : List Value).toArray below meth c H locs (cells + 4 * (nF + 1)) (slots + 24 * (nF + 1)) Q (F0 m 109 ls [])), @Wx p l e ({ frames := 10, cells := 200, slots := 1200, locals := 300 } : Room) s m ([.ref (xa 0), .ref (xb 0), .int x] : List Value).toArray below meth c H locs cells slots Q (F0 m 42 ls []) := by
  have C1 := C0
  obtain ⟨hx, hb, hr, hlocks, hts, hown, hCF, hG, hF, hA, hl0⟩ := C0
  intro nF
  induction nF with
  | zero =>
    intro v h0 h1 cells slots hc hs H locs ls hl hP hD hS kk
    refine lv_iload hx hb dL_alike_42 (lv_at hl 0 rfl) ?_
    refine lv_bipush (v := (10 : Int32)) hx hb dL_alike_44 (by decide) ?_
    refine lv_icmp_ge (tgt := 109) hx hb dL_alike_46 (by decide) (fun _ => ?_) (fun q => absurd (by rw [i32_le, show (10 : Int32).toInt = 10 by decide]; omega) q)
    have hl : lv_has ls 6 [(3, .int (1 : Int32)), (0, .ref (xa 0)), (1, .ref (xb 0)), (2, .int x)] := lv_sub hl [1, 2, 3, 4] rfl
    refine W.widen (k := cells + 4 * (0 + 1)) (n := slots + 24 * (0 + 1)) (by omega) (by omega) ?_
    exact kk _ _ _ hl hP hD hS
  | succ nF ih =>
    intro v h0 h1 cells slots hc hs H locs ls hl hP hD hS kk
    refine lv_iload hx hb dL_alike_42 (lv_at hl 0 rfl) ?_
    refine lv_bipush (v := (10 : Int32)) hx hb dL_alike_44 (by decide) ?_
    refine lv_icmp_ge (tgt := 109) hx hb dL_alike_46 (by decide) (fun c1 => ?_) (fun c1 => ?_)
    · have hl : lv_has ls 6 [(3, .int (1 : Int32)), (0, .ref (xa 0)), (1, .ref (xb 0)), (2, .int x)] := lv_sub hl [1, 2, 3, 4] rfl
      refine W.widen (k := cells + 4 * (nF + 1 + 1)) (n := slots + 24 * (nF + 1 + 1)) (by omega) (by omega) ?_
      exact kk _ _ _ hl hP hD hS
    refine lv_iload_n hx hb dL_alike_49 rfl (lv_at hl 1 rfl) ?_
    refine lv_if_eq (tgt := 109) hx hb dL_alike_50 (by decide) (fun q => absurd q (by decide)) (fun _ => ?_)
    refine lv_aload_n hx hb dL_alike_53 rfl (lv_at hl 2 rfl) ?_
    refine lv_iconst (v := (2 : Int32)) hx hb dL_alike_54 (by decide) ?_
    refine lv_iload hx hb dL_alike_55 (lv_at hl 0 rfl) ?_
    refine lv_iconst (v := (0 : Int32)) hx hb dL_alike_57 (by decide) ?_
    refine lv_iconst (v := (0 : Int32)) hx hb dL_alike_58 (by decide) ?_
    refine hwS (A0 := A) (As := [.ref (xa 0), .int (2 : Int32), .int v, .int (0 : Int32), .int (0 : Int32)]) (rest := []) (W1 := (wSp cy xa sa sb tr na ka z1 ++ wSp cy xb sc sd ts nb kb z2)) (W2 := (wSp cy xa sa sb tr na ka z1 ++ wSp cy xb sc sd ts nb kb z2)) ((cq_2 l hl0 D cy t xa sa sb tr na ka o1.1 v (0 : Int32) (0 : Int32)).ctx (List.Perm.refl _) (List.Perm.refl _)) hCF gw_L_call.more rfl hq_L_call ⟨Nat.le_of_ble_eq_true rfl, Nat.le_of_ble_eq_true rfl⟩ hG hF hP hD hS hA rfl rfl hl.1 rfl (Nat.le_of_ble_eq_true rfl) dL_alike_59 ⟨by show _ ≤ 200; omega, by show _ ≤ 1200; omega⟩ (fun H locs hP hD hS => ?_)
    refine lv_aload_n hx hb dL_alike_62 rfl (lv_at hl 3 rfl) ?_
    refine lv_iconst (v := (2 : Int32)) hx hb dL_alike_63 (by decide) ?_
    refine lv_iload hx hb dL_alike_64 (lv_at hl 0 rfl) ?_
    refine lv_iconst (v := (0 : Int32)) hx hb dL_alike_66 (by decide) ?_
    refine lv_iconst (v := (0 : Int32)) hx hb dL_alike_67 (by decide) ?_
    refine hwS (A0 := A) (As := [.ref (xb 0), .int (2 : Int32), .int v, .int (0 : Int32), .int (0 : Int32)]) (rest := [.int (kV (callP z1 2 v (0 : Int32) (0 : Int32)))]) (W1 := (wSp cy xa sa sb tr na ka z1 ++ wSp cy xb sc sd ts nb kb z2)) (W2 := (wSp cy xa sa sb tr na ka z1 ++ wSp cy xb sc sd ts nb kb z2)) ((cq_2 l hl0 D cy t xb sc sd ts nb kb o2.1 v (0 : Int32) (0 : Int32)).ctx List.perm_append_comm List.perm_append_comm) hCF gw_L_call.more rfl hq_L_call ⟨Nat.le_of_ble_eq_true rfl, Nat.le_of_ble_eq_true rfl⟩ hG hF hP hD hS hA rfl rfl hl.1 rfl (Nat.le_of_ble_eq_true rfl) dL_alike_68 ⟨by show _ ≤ 200; omega, by show _ ≤ 1200; omega⟩ (fun H locs hP hD hS => ?_)
    refine lv_icmp_ne (tgt := 101) hx hb dL_alike_71 (by decide) (fun q => absurd (hq 2 (by decide) v (0 : Int32) (0 : Int32)) q) (fun _ => ?_)
    refine lv_aload_n hx hb dL_alike_74 rfl (lv_at hl 2 rfl) ?_
    refine lv_bipush (v := (6 : Int32)) hx hb dL_alike_75 (by decide) ?_
    refine lv_iload hx hb dL_alike_77 (lv_at hl 0 rfl) ?_
    refine lv_iconst (v := (0 : Int32)) hx hb dL_alike_79 (by decide) ?_
    refine lv_iconst (v := (0 : Int32)) hx hb dL_alike_80 (by decide) ?_
    refine hwS (A0 := A) (As := [.ref (xa 0), .int (6 : Int32), .int v, .int (0 : Int32), .int (0 : Int32)]) (rest := []) (W1 := (wSp cy xa sa sb tr na ka z1 ++ wSp cy xb sc sd ts nb kb z2)) (W2 := (wSp cy xa sa sb tr na ka z1 ++ wSp cy xb sc sd ts nb kb z2)) ((cq_6 l hl0 D cy t xa sa sb tr na ka o1.1 v (0 : Int32) (0 : Int32)).ctx (List.Perm.refl _) (List.Perm.refl _)) hCF gw_L_call.more rfl hq_L_call ⟨Nat.le_of_ble_eq_true rfl, Nat.le_of_ble_eq_true rfl⟩ hG hF hP hD hS hA rfl rfl hl.1 rfl (Nat.le_of_ble_eq_true rfl) dL_alike_81 ⟨by show _ ≤ 200; omega, by show _ ≤ 1200; omega⟩ (fun H locs hP hD hS => ?_)
    refine lv_aload_n hx hb dL_alike_84 rfl (lv_at hl 3 rfl) ?_
    refine lv_bipush (v := (6 : Int32)) hx hb dL_alike_85 (by decide) ?_
    refine lv_iload hx hb dL_alike_87 (lv_at hl 0 rfl) ?_
    refine lv_iconst (v := (0 : Int32)) hx hb dL_alike_89 (by decide) ?_
    refine lv_iconst (v := (0 : Int32)) hx hb dL_alike_90 (by decide) ?_
    refine hwS (A0 := A) (As := [.ref (xb 0), .int (6 : Int32), .int v, .int (0 : Int32), .int (0 : Int32)]) (rest := [.int (kV (callP z1 6 v (0 : Int32) (0 : Int32)))]) (W1 := (wSp cy xa sa sb tr na ka z1 ++ wSp cy xb sc sd ts nb kb z2)) (W2 := (wSp cy xa sa sb tr na ka z1 ++ wSp cy xb sc sd ts nb kb z2)) ((cq_6 l hl0 D cy t xb sc sd ts nb kb o2.1 v (0 : Int32) (0 : Int32)).ctx List.perm_append_comm List.perm_append_comm) hCF gw_L_call.more rfl hq_L_call ⟨Nat.le_of_ble_eq_true rfl, Nat.le_of_ble_eq_true rfl⟩ hG hF hP hD hS hA rfl rfl hl.1 rfl (Nat.le_of_ble_eq_true rfl) dL_alike_91 ⟨by show _ ≤ 200; omega, by show _ ≤ 1200; omega⟩ (fun H locs hP hD hS => ?_)
    refine lv_icmp_ne (tgt := 101) hx hb dL_alike_94 (by decide) (fun q => absurd (hq 6 (by decide) v (0 : Int32) (0 : Int32)) q) (fun _ => ?_)
    refine lv_iconst (v := (1 : Int32)) hx hb dL_alike_97 (by decide) ?_
    refine lv_goto (tgt := 102) hx hb dL_alike_98 (by decide) ?_
    refine lv_istore_n (lv' := [(3, .int (1 : Int32)), (4, .int v), (0, .ref (xa 0)), (1, .ref (xb 0)), (2, .int x)]) hx hb dL_alike_102 rfl hl (by decide) rfl (fun ls hl => ?_)
    refine lv_iinc (v := (v + (1 : Int32))) (lv' := [(4, .int (v + (1 : Int32))), (3, .int (1 : Int32)), (0, .ref (xa 0)), (1, .ref (xb 0)), (2, .int x)]) hx hb dL_alike_103 hl (k := 1) rfl rfl (by decide) rfl (fun ls hl => ?_)
    refine lv_goto (tgt := 42) hx hb dL_alike_106 (by decide) ?_
    have hl : lv_has ls 6 [(4, .int (v + (1 : Int32))), (3, .int (1 : Int32)), (0, .ref (xa 0)), (1, .ref (xb 0)), (2, .int x)] := lv_sub hl [0, 1, 2, 3, 4] rfl
    refine W.widen (k := cells + 4) (n := slots + 24) (by omega) (by omega) ?_
    have c2 : v.toInt < 10 := by rw [i32_le, show (10 : Int32).toInt = 10 by decide] at c1; omega
    have e1 : (v + 1).toInt = v.toInt + 1 := by rw [i32_add (by rw [i32_1]; omega) (by rw [i32_1]; have := i32_hi v; omega), i32_1]
    refine ih (v + 1) (by omega) (by omega) (by omega) (by omega) hl hP hD hS (fun ls H locs hl hP hD hS => ?_)
    refine W.widen (k := cells + 4 * (nF + 1 + 1)) (n := slots + 24 * (nF + 1 + 1)) (by omega) (by omega) ?_
    exact kk _ _ _ hl hP hD hS
set_option maxRecDepth 20000 in
theorem w_al2 {p : Program} {l : Launch} {e : Env} {s : State} {m : MethodId} {below : List Frame} {meth : Method} {c : Code} {D : va_G} {cy : Nat → ClassId} {t : FxA} {A : Nat → Prop} {Q : State → Prop} {xa sa sb tr na : Nat → Nat} {ka : Nat → Nat → Nat} {xb sc sd ts nb : Nat → Nat} {kb : Nat → Nat → Nat} {z1 z2 : SpT} {x : Int32} (C0 : LR p l s m meth c ([.ref (xa 0), .ref (xb 0), .int x] : List Value).toArray cL_alike 6 wc_alike (some .boolean) D cy t A) (o1 : OKz z1 ∧ VIS z1 z1) (o2 : OKz z2 ∧ VIS z2 z2) (hq : ∀ k : Nat, k < 24 → ∀ a b c : Int32, kV (callP z1 k a b c) = kV (callP z2 k a b c)) (ho : ∀ a b c d : Int32, kV (m_X8_owed z1 a b c d) = kV (m_X8_owed z2 a b c d)) (hn : (uN (sU (pN z1))).toInt ≤ 16) : ∀ (nF : Nat) (v : Int32), 0 ≤ v.toInt → (uN (sU (pN z1))).toInt - v.toInt ≤ nF → ∀ {cells slots : Nat} (hc : cells + 4 * (nF + 1) ≤ 200) (hs : slots + 24 * (nF + 1) ≤ 1200) {H : Heap} {locs : List Loc} {ls : Array Slot} (hl : lv_has ls 6 [(5, .int v), (4, .int (uN (sU (pN z1)))), (3, .int (1 : Int32)), (0, .ref (xa 0)), (1, .ref (xb 0)), (2, .int x)]) (hP : va_P D vwCl (wSp cy xa sa sb tr na ka z1 ++ wSp cy xb sc sd ts nb kb z2) H) (hD : va_D A (wSp cy xa sa sb tr na ka z1 ++ wSp cy xb sc sd ts nb kb z2)) (hS : va_S A s.heap H locs) (kk : ∀ (ls : Array Slot) (H : Heap) (locs : List Loc), lv_has ls 6 [(3, .int (1 : Int32)), (0, .ref (xa 0)), (1, .ref (xb 0)), (2, .int x)] → va_P D vwCl (wSp cy xa sa sb tr na ka z1 ++ wSp cy xb sc sd ts nb kb z2) H → va_D A (wSp cy xa sa sb tr na ka z1 ++ wSp cy xb sc sd ts nb kb z2) → va_S A s.heap H locs → @Wx p l e ({ frames := 10, cells := 200, slots := 1200, locals := 300 } : Room) s m ([.ref (xa 0), .ref (xb 0), .int x] : List Value).toArray below meth c H locs (cells + 4 * (nF + 1)) (slots + 24 * (nF + 1)) Q (F0 m 193 ls [])), @Wx p l e ({ frames := 10, cells := 200, slots := 1200, locals := 300 } : Room) s m ([.ref (xa 0), .ref (xb 0), .int x] : List Value).toArray below meth c H locs cells slots Q (F0 m 122 ls []) := by
  have C1 := C0
  obtain ⟨hx, hb, hr, hlocks, hts, hown, hCF, hG, hF, hA, hl0⟩ := C0
  intro nF
  induction nF with
  | zero =>
    intro v h0 h1 cells slots hc hs H locs ls hl hP hD hS kk
    refine lv_iload hx hb dL_alike_122 (lv_at hl 0 rfl) ?_
    refine lv_iload hx hb dL_alike_124 (lv_at hl 1 rfl) ?_
    refine lv_icmp_ge (tgt := 193) hx hb dL_alike_126 (by decide) (fun _ => ?_) (fun q => absurd (by rw [i32_le]; omega) q)
    have hl : lv_has ls 6 [(3, .int (1 : Int32)), (0, .ref (xa 0)), (1, .ref (xb 0)), (2, .int x)] := lv_sub hl [2, 3, 4, 5] rfl
    refine W.widen (k := cells + 4 * (0 + 1)) (n := slots + 24 * (0 + 1)) (by omega) (by omega) ?_
    exact kk _ _ _ hl hP hD hS
  | succ nF ih =>
    intro v h0 h1 cells slots hc hs H locs ls hl hP hD hS kk
    refine lv_iload hx hb dL_alike_122 (lv_at hl 0 rfl) ?_
    refine lv_iload hx hb dL_alike_124 (lv_at hl 1 rfl) ?_
    refine lv_icmp_ge (tgt := 193) hx hb dL_alike_126 (by decide) (fun c1 => ?_) (fun c1 => ?_)
    · have hl : lv_has ls 6 [(3, .int (1 : Int32)), (0, .ref (xa 0)), (1, .ref (xb 0)), (2, .int x)] := lv_sub hl [2, 3, 4, 5] rfl
      refine W.widen (k := cells + 4 * (nF + 1 + 1)) (n := slots + 24 * (nF + 1 + 1)) (by omega) (by omega) ?_
      exact kk _ _ _ hl hP hD hS
    refine lv_iload_n hx hb dL_alike_129 rfl (lv_at hl 2 rfl) ?_
    refine lv_if_eq (tgt := 193) hx hb dL_alike_130 (by decide) (fun q => absurd q (by decide)) (fun _ => ?_)
    refine lv_aload_n hx hb dL_alike_133 rfl (lv_at hl 3 rfl) ?_
    refine lv_iconst (v := (3 : Int32)) hx hb dL_alike_134 (by decide) ?_
    refine lv_iload hx hb dL_alike_135 (lv_at hl 0 rfl) ?_
    refine lv_iload_n hx hb dL_alike_137 rfl (lv_at hl 5 rfl) ?_
    refine lv_bipush (v := (6 : Int32)) hx hb dL_alike_138 (by decide) ?_
    refine lv_irem hx hb dL_alike_140 (by decide) ?_
    refine lv_iconst (v := (0 : Int32)) hx hb dL_alike_141 (by decide) ?_
    refine hwS (A0 := A) (As := [.ref (xa 0), .int (3 : Int32), .int v, .int (rmJ x (6 : Int32)), .int (0 : Int32)]) (rest := []) (W1 := (wSp cy xa sa sb tr na ka z1 ++ wSp cy xb sc sd ts nb kb z2)) (W2 := (wSp cy xa sa sb tr na ka z1 ++ wSp cy xb sc sd ts nb kb z2)) ((cq_3 l hl0 D cy t xa sa sb tr na ka o1.1 v (rmJ x (6 : Int32)) (0 : Int32)).ctx (List.Perm.refl _) (List.Perm.refl _)) hCF gw_L_call.more rfl hq_L_call ⟨Nat.le_of_ble_eq_true rfl, Nat.le_of_ble_eq_true rfl⟩ hG hF hP hD hS hA rfl rfl hl.1 rfl (Nat.le_of_ble_eq_true rfl) dL_alike_142 ⟨by show _ ≤ 200; omega, by show _ ≤ 1200; omega⟩ (fun H locs hP hD hS => ?_)
    refine lv_aload_n hx hb dL_alike_145 rfl (lv_at hl 4 rfl) ?_
    refine lv_iconst (v := (3 : Int32)) hx hb dL_alike_146 (by decide) ?_
    refine lv_iload hx hb dL_alike_147 (lv_at hl 0 rfl) ?_
    refine lv_iload_n hx hb dL_alike_149 rfl (lv_at hl 5 rfl) ?_
    refine lv_bipush (v := (6 : Int32)) hx hb dL_alike_150 (by decide) ?_
    refine lv_irem hx hb dL_alike_152 (by decide) ?_
    refine lv_iconst (v := (0 : Int32)) hx hb dL_alike_153 (by decide) ?_
    refine hwS (A0 := A) (As := [.ref (xb 0), .int (3 : Int32), .int v, .int (rmJ x (6 : Int32)), .int (0 : Int32)]) (rest := [.int (kV (callP z1 3 v (rmJ x (6 : Int32)) (0 : Int32)))]) (W1 := (wSp cy xa sa sb tr na ka z1 ++ wSp cy xb sc sd ts nb kb z2)) (W2 := (wSp cy xa sa sb tr na ka z1 ++ wSp cy xb sc sd ts nb kb z2)) ((cq_3 l hl0 D cy t xb sc sd ts nb kb o2.1 v (rmJ x (6 : Int32)) (0 : Int32)).ctx List.perm_append_comm List.perm_append_comm) hCF gw_L_call.more rfl hq_L_call ⟨Nat.le_of_ble_eq_true rfl, Nat.le_of_ble_eq_true rfl⟩ hG hF hP hD hS hA rfl rfl hl.1 rfl (Nat.le_of_ble_eq_true rfl) dL_alike_154 ⟨by show _ ≤ 200; omega, by show _ ≤ 1200; omega⟩ (fun H locs hP hD hS => ?_)
    refine lv_icmp_ne (tgt := 185) hx hb dL_alike_157 (by decide) (fun q => absurd (hq 3 (by decide) v (rmJ x (6 : Int32)) (0 : Int32)) q) (fun _ => ?_)
    refine lv_aload_n hx hb dL_alike_160 rfl (lv_at hl 3 rfl) ?_
    refine lv_iconst (v := (3 : Int32)) hx hb dL_alike_161 (by decide) ?_
    refine lv_iload hx hb dL_alike_162 (lv_at hl 0 rfl) ?_
    refine lv_iconst (v := (3 : Int32)) hx hb dL_alike_164 (by decide) ?_
    refine lv_iconst (v := (0 : Int32)) hx hb dL_alike_165 (by decide) ?_
    refine hwS (A0 := A) (As := [.ref (xa 0), .int (3 : Int32), .int v, .int (3 : Int32), .int (0 : Int32)]) (rest := []) (W1 := (wSp cy xa sa sb tr na ka z1 ++ wSp cy xb sc sd ts nb kb z2)) (W2 := (wSp cy xa sa sb tr na ka z1 ++ wSp cy xb sc sd ts nb kb z2)) ((cq_3 l hl0 D cy t xa sa sb tr na ka o1.1 v (3 : Int32) (0 : Int32)).ctx (List.Perm.refl _) (List.Perm.refl _)) hCF gw_L_call.more rfl hq_L_call ⟨Nat.le_of_ble_eq_true rfl, Nat.le_of_ble_eq_true rfl⟩ hG hF hP hD hS hA rfl rfl hl.1 rfl (Nat.le_of_ble_eq_true rfl) dL_alike_166 ⟨by show _ ≤ 200; omega, by show _ ≤ 1200; omega⟩ (fun H locs hP hD hS => ?_)
    refine lv_aload_n hx hb dL_alike_169 rfl (lv_at hl 4 rfl) ?_
    refine lv_iconst (v := (3 : Int32)) hx hb dL_alike_170 (by decide) ?_
    refine lv_iload hx hb dL_alike_171 (lv_at hl 0 rfl) ?_
    refine lv_iconst (v := (3 : Int32)) hx hb dL_alike_173 (by decide) ?_
    refine lv_iconst (v := (0 : Int32)) hx hb dL_alike_174 (by decide) ?_
    refine hwS (A0 := A) (As := [.ref (xb 0), .int (3 : Int32), .int v, .int (3 : Int32), .int (0 : Int32)]) (rest := [.int (kV (callP z1 3 v (3 : Int32) (0 : Int32)))]) (W1 := (wSp cy xa sa sb tr na ka z1 ++ wSp cy xb sc sd ts nb kb z2)) (W2 := (wSp cy xa sa sb tr na ka z1 ++ wSp cy xb sc sd ts nb kb z2)) ((cq_3 l hl0 D cy t xb sc sd ts nb kb o2.1 v (3 : Int32) (0 : Int32)).ctx List.perm_append_comm List.perm_append_comm) hCF gw_L_call.more rfl hq_L_call ⟨Nat.le_of_ble_eq_true rfl, Nat.le_of_ble_eq_true rfl⟩ hG hF hP hD hS hA rfl rfl hl.1 rfl (Nat.le_of_ble_eq_true rfl) dL_alike_175 ⟨by show _ ≤ 200; omega, by show _ ≤ 1200; omega⟩ (fun H locs hP hD hS => ?_)
    refine lv_icmp_ne (tgt := 185) hx hb dL_alike_178 (by decide) (fun q => absurd (hq 3 (by decide) v (3 : Int32) (0 : Int32)) q) (fun _ => ?_)
    refine lv_iconst (v := (1 : Int32)) hx hb dL_alike_181 (by decide) ?_
    refine lv_goto (tgt := 186) hx hb dL_alike_182 (by decide) ?_
    refine lv_istore_n (lv' := [(3, .int (1 : Int32)), (5, .int v), (4, .int (uN (sU (pN z1)))), (0, .ref (xa 0)), (1, .ref (xb 0)), (2, .int x)]) hx hb dL_alike_186 rfl hl (by decide) rfl (fun ls hl => ?_)
    refine lv_iinc (v := (v + (1 : Int32))) (lv' := [(5, .int (v + (1 : Int32))), (3, .int (1 : Int32)), (4, .int (uN (sU (pN z1)))), (0, .ref (xa 0)), (1, .ref (xb 0)), (2, .int x)]) hx hb dL_alike_187 hl (k := 1) rfl rfl (by decide) rfl (fun ls hl => ?_)
    refine lv_goto (tgt := 122) hx hb dL_alike_190 (by decide) ?_
    have hl : lv_has ls 6 [(5, .int (v + (1 : Int32))), (4, .int (uN (sU (pN z1)))), (3, .int (1 : Int32)), (0, .ref (xa 0)), (1, .ref (xb 0)), (2, .int x)] := lv_sub hl [0, 2, 1, 3, 4, 5] rfl
    refine W.widen (k := cells + 4) (n := slots + 24) (by omega) (by omega) ?_
    have c2 : v.toInt < (uN (sU (pN z1))).toInt := by rw [i32_le] at c1; omega
    have e1 : (v + 1).toInt = v.toInt + 1 := by rw [i32_add (by rw [i32_1]; omega) (by rw [i32_1]; have := i32_hi v; omega), i32_1]
    refine ih (v + 1) (by omega) (by omega) (by omega) (by omega) hl hP hD hS (fun ls H locs hl hP hD hS => ?_)
    refine W.widen (k := cells + 4 * (nF + 1 + 1)) (n := slots + 24 * (nF + 1 + 1)) (by omega) (by omega) ?_
    exact kk _ _ _ hl hP hD hS
set_option maxRecDepth 20000 in
theorem w_al3 {p : Program} {l : Launch} {e : Env} {s : State} {m : MethodId} {below : List Frame} {meth : Method} {c : Code} {D : va_G} {cy : Nat → ClassId} {t : FxA} {A : Nat → Prop} {Q : State → Prop} {xa sa sb tr na : Nat → Nat} {ka : Nat → Nat → Nat} {xb sc sd ts nb : Nat → Nat} {kb : Nat → Nat → Nat} {z1 z2 : SpT} {x : Int32} (C0 : LR p l s m meth c ([.ref (xa 0), .ref (xb 0), .int x] : List Value).toArray cL_alike 6 wc_alike (some .boolean) D cy t A) (o1 : OKz z1 ∧ VIS z1 z1) (o2 : OKz z2 ∧ VIS z2 z2) (hq : ∀ k : Nat, k < 24 → ∀ a b c : Int32, kV (callP z1 k a b c) = kV (callP z2 k a b c)) (ho : ∀ a b c d : Int32, kV (m_X8_owed z1 a b c d) = kV (m_X8_owed z2 a b c d)) : ∀ (nF : Nat) (v : Int32), 0 ≤ v.toInt → 5 - v.toInt ≤ nF → ∀ {cells slots : Nat} (hc : cells + 8 * (nF + 1) ≤ 200) (hs : slots + 48 * (nF + 1) ≤ 1200) {H : Heap} {locs : List Loc} {ls : Array Slot} (hl : lv_has ls 6 [(5, .int v), (3, .int (1 : Int32)), (0, .ref (xa 0)), (1, .ref (xb 0)), (2, .int x)]) (hP : va_P D vwCl (wSp cy xa sa sb tr na ka z1 ++ wSp cy xb sc sd ts nb kb z2) H) (hD : va_D A (wSp cy xa sa sb tr na ka z1 ++ wSp cy xb sc sd ts nb kb z2)) (hS : va_S A s.heap H locs) (kk : ∀ (ls : Array Slot) (H : Heap) (locs : List Loc), lv_has ls 6 [(3, .int (1 : Int32)), (0, .ref (xa 0)), (1, .ref (xb 0)), (2, .int x)] → va_P D vwCl (wSp cy xa sa sb tr na ka z1 ++ wSp cy xb sc sd ts nb kb z2) H → va_D A (wSp cy xa sa sb tr na ka z1 ++ wSp cy xb sc sd ts nb kb z2) → va_S A s.heap H locs → @Wx p l e ({ frames := 10, cells := 200, slots := 1200, locals := 300 } : Room) s m ([.ref (xa 0), .ref (xb 0), .int x] : List Value).toArray below meth c H locs (cells + 8 * (nF + 1)) (slots + 48 * (nF + 1)) Q (F0 m 352 ls [])), @Wx p l e ({ frames := 10, cells := 200, slots := 1200, locals := 300 } : Room) s m ([.ref (xa 0), .ref (xb 0), .int x] : List Value).toArray below meth c H locs cells slots Q (F0 m 196 ls []) := by
  have C1 := C0
  obtain ⟨hx, hb, hr, hlocks, hts, hown, hCF, hG, hF, hA, hl0⟩ := C0
  intro nF
  induction nF with
  | zero =>
    intro v h0 h1 cells slots hc hs H locs ls hl hP hD hS kk
    refine lv_iload hx hb dL_alike_196 (lv_at hl 0 rfl) ?_
    refine lv_iconst (v := (5 : Int32)) hx hb dL_alike_198 (by decide) ?_
    refine lv_icmp_ge (tgt := 352) hx hb dL_alike_199 (by decide) (fun _ => ?_) (fun q => absurd (by rw [i32_le, show (5 : Int32).toInt = 5 by decide]; omega) q)
    have hl : lv_has ls 6 [(3, .int (1 : Int32)), (0, .ref (xa 0)), (1, .ref (xb 0)), (2, .int x)] := lv_sub hl [1, 2, 3, 4] rfl
    refine W.widen (k := cells + 8 * (0 + 1)) (n := slots + 48 * (0 + 1)) (by omega) (by omega) ?_
    exact kk _ _ _ hl hP hD hS
  | succ nF ih =>
    intro v h0 h1 cells slots hc hs H locs ls hl hP hD hS kk
    refine lv_iload hx hb dL_alike_196 (lv_at hl 0 rfl) ?_
    refine lv_iconst (v := (5 : Int32)) hx hb dL_alike_198 (by decide) ?_
    refine lv_icmp_ge (tgt := 352) hx hb dL_alike_199 (by decide) (fun c1 => ?_) (fun c1 => ?_)
    · have hl : lv_has ls 6 [(3, .int (1 : Int32)), (0, .ref (xa 0)), (1, .ref (xb 0)), (2, .int x)] := lv_sub hl [1, 2, 3, 4] rfl
      refine W.widen (k := cells + 8 * (nF + 1 + 1)) (n := slots + 48 * (nF + 1 + 1)) (by omega) (by omega) ?_
      exact kk _ _ _ hl hP hD hS
    refine lv_iload_n hx hb dL_alike_202 rfl (lv_at hl 1 rfl) ?_
    refine lv_if_eq (tgt := 352) hx hb dL_alike_203 (by decide) (fun q => absurd q (by decide)) (fun _ => ?_)
    refine lv_aload_n hx hb dL_alike_206 rfl (lv_at hl 2 rfl) ?_
    refine lv_iconst (v := (4 : Int32)) hx hb dL_alike_207 (by decide) ?_
    refine lv_iload hx hb dL_alike_208 (lv_at hl 0 rfl) ?_
    refine lv_iload_n hx hb dL_alike_210 rfl (lv_at hl 4 rfl) ?_
    refine lv_bipush (v := (7 : Int32)) hx hb dL_alike_211 (by decide) ?_
    refine lv_irem hx hb dL_alike_213 (by decide) ?_
    refine lv_iconst (v := (0 : Int32)) hx hb dL_alike_214 (by decide) ?_
    refine hwS (A0 := A) (As := [.ref (xa 0), .int (4 : Int32), .int v, .int (rmJ x (7 : Int32)), .int (0 : Int32)]) (rest := []) (W1 := (wSp cy xa sa sb tr na ka z1 ++ wSp cy xb sc sd ts nb kb z2)) (W2 := (wSp cy xa sa sb tr na ka z1 ++ wSp cy xb sc sd ts nb kb z2)) ((cq_4 l hl0 D cy t xa sa sb tr na ka o1.1 v (rmJ x (7 : Int32)) (0 : Int32)).ctx (List.Perm.refl _) (List.Perm.refl _)) hCF gw_L_call.more rfl hq_L_call ⟨Nat.le_of_ble_eq_true rfl, Nat.le_of_ble_eq_true rfl⟩ hG hF hP hD hS hA rfl rfl hl.1 rfl (Nat.le_of_ble_eq_true rfl) dL_alike_215 ⟨by show _ ≤ 200; omega, by show _ ≤ 1200; omega⟩ (fun H locs hP hD hS => ?_)
    refine lv_aload_n hx hb dL_alike_218 rfl (lv_at hl 3 rfl) ?_
    refine lv_iconst (v := (4 : Int32)) hx hb dL_alike_219 (by decide) ?_
    refine lv_iload hx hb dL_alike_220 (lv_at hl 0 rfl) ?_
    refine lv_iload_n hx hb dL_alike_222 rfl (lv_at hl 4 rfl) ?_
    refine lv_bipush (v := (7 : Int32)) hx hb dL_alike_223 (by decide) ?_
    refine lv_irem hx hb dL_alike_225 (by decide) ?_
    refine lv_iconst (v := (0 : Int32)) hx hb dL_alike_226 (by decide) ?_
    refine hwS (A0 := A) (As := [.ref (xb 0), .int (4 : Int32), .int v, .int (rmJ x (7 : Int32)), .int (0 : Int32)]) (rest := [.int (kV (callP z1 4 v (rmJ x (7 : Int32)) (0 : Int32)))]) (W1 := (wSp cy xa sa sb tr na ka z1 ++ wSp cy xb sc sd ts nb kb z2)) (W2 := (wSp cy xa sa sb tr na ka z1 ++ wSp cy xb sc sd ts nb kb z2)) ((cq_4 l hl0 D cy t xb sc sd ts nb kb o2.1 v (rmJ x (7 : Int32)) (0 : Int32)).ctx List.perm_append_comm List.perm_append_comm) hCF gw_L_call.more rfl hq_L_call ⟨Nat.le_of_ble_eq_true rfl, Nat.le_of_ble_eq_true rfl⟩ hG hF hP hD hS hA rfl rfl hl.1 rfl (Nat.le_of_ble_eq_true rfl) dL_alike_227 ⟨by show _ ≤ 200; omega, by show _ ≤ 1200; omega⟩ (fun H locs hP hD hS => ?_)
    refine lv_icmp_ne (tgt := 344) hx hb dL_alike_230 (by decide) (fun q => absurd (hq 4 (by decide) v (rmJ x (7 : Int32)) (0 : Int32)) q) (fun _ => ?_)
    refine lv_aload_n hx hb dL_alike_233 rfl (lv_at hl 2 rfl) ?_
    refine lv_iconst (v := (5 : Int32)) hx hb dL_alike_234 (by decide) ?_
    refine lv_iload hx hb dL_alike_235 (lv_at hl 0 rfl) ?_
    refine lv_iload_n hx hb dL_alike_237 rfl (lv_at hl 4 rfl) ?_
    refine lv_iconst (v := (3 : Int32)) hx hb dL_alike_238 (by decide) ?_
    refine lv_irem hx hb dL_alike_239 (by decide) ?_
    refine lv_iload_n hx hb dL_alike_240 rfl (lv_at hl 4 rfl) ?_
    refine lv_iconst (v := (4 : Int32)) hx hb dL_alike_241 (by decide) ?_
    refine lv_idiv hx hb dL_alike_242 (by decide) ?_
    refine lv_iconst (v := (2 : Int32)) hx hb dL_alike_243 (by decide) ?_
    refine lv_irem hx hb dL_alike_244 (by decide) ?_
    refine hwS (A0 := A) (As := [.ref (xa 0), .int (5 : Int32), .int v, .int (rmJ x (3 : Int32)), .int (rmJ (x / (4 : Int32)) (2 : Int32))]) (rest := []) (W1 := (wSp cy xa sa sb tr na ka z1 ++ wSp cy xb sc sd ts nb kb z2)) (W2 := (wSp cy xa sa sb tr na ka z1 ++ wSp cy xb sc sd ts nb kb z2)) ((cq_5 l hl0 D cy t xa sa sb tr na ka o1.1 v (rmJ x (3 : Int32)) (rmJ (x / (4 : Int32)) (2 : Int32))).ctx (List.Perm.refl _) (List.Perm.refl _)) hCF gw_L_call.more rfl hq_L_call ⟨Nat.le_of_ble_eq_true rfl, Nat.le_of_ble_eq_true rfl⟩ hG hF hP hD hS hA rfl rfl hl.1 rfl (Nat.le_of_ble_eq_true rfl) dL_alike_245 ⟨by show _ ≤ 200; omega, by show _ ≤ 1200; omega⟩ (fun H locs hP hD hS => ?_)
    refine lv_aload_n hx hb dL_alike_248 rfl (lv_at hl 3 rfl) ?_
    refine lv_iconst (v := (5 : Int32)) hx hb dL_alike_249 (by decide) ?_
    refine lv_iload hx hb dL_alike_250 (lv_at hl 0 rfl) ?_
    refine lv_iload_n hx hb dL_alike_252 rfl (lv_at hl 4 rfl) ?_
    refine lv_iconst (v := (3 : Int32)) hx hb dL_alike_253 (by decide) ?_
    refine lv_irem hx hb dL_alike_254 (by decide) ?_
    refine lv_iload_n hx hb dL_alike_255 rfl (lv_at hl 4 rfl) ?_
    refine lv_iconst (v := (4 : Int32)) hx hb dL_alike_256 (by decide) ?_
    refine lv_idiv hx hb dL_alike_257 (by decide) ?_
    refine lv_iconst (v := (2 : Int32)) hx hb dL_alike_258 (by decide) ?_
    refine lv_irem hx hb dL_alike_259 (by decide) ?_
    refine hwS (A0 := A) (As := [.ref (xb 0), .int (5 : Int32), .int v, .int (rmJ x (3 : Int32)), .int (rmJ (x / (4 : Int32)) (2 : Int32))]) (rest := [.int (kV (callP z1 5 v (rmJ x (3 : Int32)) (rmJ (x / (4 : Int32)) (2 : Int32))))]) (W1 := (wSp cy xa sa sb tr na ka z1 ++ wSp cy xb sc sd ts nb kb z2)) (W2 := (wSp cy xa sa sb tr na ka z1 ++ wSp cy xb sc sd ts nb kb z2)) ((cq_5 l hl0 D cy t xb sc sd ts nb kb o2.1 v (rmJ x (3 : Int32)) (rmJ (x / (4 : Int32)) (2 : Int32))).ctx List.perm_append_comm List.perm_append_comm) hCF gw_L_call.more rfl hq_L_call ⟨Nat.le_of_ble_eq_true rfl, Nat.le_of_ble_eq_true rfl⟩ hG hF hP hD hS hA rfl rfl hl.1 rfl (Nat.le_of_ble_eq_true rfl) dL_alike_260 ⟨by show _ ≤ 200; omega, by show _ ≤ 1200; omega⟩ (fun H locs hP hD hS => ?_)
    refine lv_icmp_ne (tgt := 344) hx hb dL_alike_263 (by decide) (fun q => absurd (hq 5 (by decide) v (rmJ x (3 : Int32)) (rmJ (x / (4 : Int32)) (2 : Int32))) q) (fun _ => ?_)
    refine lv_aload_n hx hb dL_alike_266 rfl (lv_at hl 2 rfl) ?_
    refine lv_iload hx hb dL_alike_267 (lv_at hl 0 rfl) ?_
    refine lv_iload_n hx hb dL_alike_269 rfl (lv_at hl 4 rfl) ?_
    refine lv_iconst (v := (5 : Int32)) hx hb dL_alike_270 (by decide) ?_
    refine lv_irem hx hb dL_alike_271 (by decide) ?_
    refine lv_iload_n hx hb dL_alike_272 rfl (lv_at hl 4 rfl) ?_
    refine lv_bipush (v := (8 : Int32)) hx hb dL_alike_273 (by decide) ?_
    refine lv_idiv hx hb dL_alike_275 (by decide) ?_
    refine lv_iconst (v := (3 : Int32)) hx hb dL_alike_276 (by decide) ?_
    refine lv_irem hx hb dL_alike_277 (by decide) ?_
    refine lv_iload_n hx hb dL_alike_278 rfl (lv_at hl 4 rfl) ?_
    refine lv_bipush (v := (32 : Int32)) hx hb dL_alike_279 (by decide) ?_
    refine lv_idiv hx hb dL_alike_281 (by decide) ?_
    refine lv_iconst (v := (3 : Int32)) hx hb dL_alike_282 (by decide) ?_
    refine lv_irem hx hb dL_alike_283 (by decide) ?_
    refine hwSW (A0 := A) (As := [.ref (xa 0), .int v, .int (rmJ x (5 : Int32)), .int (rmJ (x / (8 : Int32)) (3 : Int32)), .int (rmJ (x / (32 : Int32)) (3 : Int32))]) (rest := []) (W1 := (wSp cy xa sa sb tr na ka z1 ++ wSp cy xb sc sd ts nb kb z2)) (W2 := (wSp cy xa sa sb tr na ka z1 ++ wSp cy xb sc sd ts nb kb z2)) ((co_owed l hl0 D cy t xa sa sb tr na ka o1.1 v (rmJ x (5 : Int32)) (rmJ (x / (8 : Int32)) (3 : Int32)) (rmJ (x / (32 : Int32)) (3 : Int32))).ctx (List.Perm.refl _) (List.Perm.refl _)) hCF gw_L_tryOwed.more rfl hq_L_tryOwed ⟨Nat.le_of_ble_eq_true rfl, Nat.le_of_ble_eq_true rfl⟩ hG hF hP hD hS hA rfl rfl hl.1 rfl (Nat.le_of_ble_eq_true rfl) dL_alike_284 ⟨by show _ ≤ 200; omega, by show _ ≤ 1200; omega⟩ (fun H locs hP hD hS => ?_)
    refine lv_aload_n hx hb dL_alike_287 rfl (lv_at hl 3 rfl) ?_
    refine lv_iload hx hb dL_alike_288 (lv_at hl 0 rfl) ?_
    refine lv_iload_n hx hb dL_alike_290 rfl (lv_at hl 4 rfl) ?_
    refine lv_iconst (v := (5 : Int32)) hx hb dL_alike_291 (by decide) ?_
    refine lv_irem hx hb dL_alike_292 (by decide) ?_
    refine lv_iload_n hx hb dL_alike_293 rfl (lv_at hl 4 rfl) ?_
    refine lv_bipush (v := (8 : Int32)) hx hb dL_alike_294 (by decide) ?_
    refine lv_idiv hx hb dL_alike_296 (by decide) ?_
    refine lv_iconst (v := (3 : Int32)) hx hb dL_alike_297 (by decide) ?_
    refine lv_irem hx hb dL_alike_298 (by decide) ?_
    refine lv_iload_n hx hb dL_alike_299 rfl (lv_at hl 4 rfl) ?_
    refine lv_bipush (v := (32 : Int32)) hx hb dL_alike_300 (by decide) ?_
    refine lv_idiv hx hb dL_alike_302 (by decide) ?_
    refine lv_iconst (v := (3 : Int32)) hx hb dL_alike_303 (by decide) ?_
    refine lv_irem hx hb dL_alike_304 (by decide) ?_
    refine hwSW (A0 := A) (As := [.ref (xb 0), .int v, .int (rmJ x (5 : Int32)), .int (rmJ (x / (8 : Int32)) (3 : Int32)), .int (rmJ (x / (32 : Int32)) (3 : Int32))]) (rest := [.int (kV (m_X8_owed z1 v (rmJ x (5 : Int32)) (rmJ (x / (8 : Int32)) (3 : Int32)) (rmJ (x / (32 : Int32)) (3 : Int32))))]) (W1 := (wSp cy xa sa sb tr na ka z1 ++ wSp cy xb sc sd ts nb kb z2)) (W2 := (wSp cy xa sa sb tr na ka z1 ++ wSp cy xb sc sd ts nb kb z2)) ((co_owed l hl0 D cy t xb sc sd ts nb kb o2.1 v (rmJ x (5 : Int32)) (rmJ (x / (8 : Int32)) (3 : Int32)) (rmJ (x / (32 : Int32)) (3 : Int32))).ctx List.perm_append_comm List.perm_append_comm) hCF gw_L_tryOwed.more rfl hq_L_tryOwed ⟨Nat.le_of_ble_eq_true rfl, Nat.le_of_ble_eq_true rfl⟩ hG hF hP hD hS hA rfl rfl hl.1 rfl (Nat.le_of_ble_eq_true rfl) dL_alike_305 ⟨by show _ ≤ 200; omega, by show _ ≤ 1200; omega⟩ (fun H locs hP hD hS => ?_)
    refine lv_icmp_ne (tgt := 344) hx hb dL_alike_308 (by decide) (fun q => absurd (ho v (rmJ x (5 : Int32)) (rmJ (x / (8 : Int32)) (3 : Int32)) (rmJ (x / (32 : Int32)) (3 : Int32))) q) (fun _ => ?_)
    refine lv_aload_n hx hb dL_alike_311 rfl (lv_at hl 2 rfl) ?_
    refine lv_bipush (v := (20 : Int32)) hx hb dL_alike_312 (by decide) ?_
    refine lv_iload hx hb dL_alike_314 (lv_at hl 0 rfl) ?_
    refine lv_iload_n hx hb dL_alike_316 rfl (lv_at hl 4 rfl) ?_
    refine lv_bipush (v := (100 : Int32)) hx hb dL_alike_317 (by decide) ?_
    refine lv_irem hx hb dL_alike_319 (by decide) ?_
    refine lv_iconst (v := (0 : Int32)) hx hb dL_alike_320 (by decide) ?_
    refine hwS (A0 := A) (As := [.ref (xa 0), .int (20 : Int32), .int v, .int (rmJ x (100 : Int32)), .int (0 : Int32)]) (rest := []) (W1 := (wSp cy xa sa sb tr na ka z1 ++ wSp cy xb sc sd ts nb kb z2)) (W2 := (wSp cy xa sa sb tr na ka z1 ++ wSp cy xb sc sd ts nb kb z2)) ((cq_20 l hl0 D cy t xa sa sb tr na ka o1.1 v (rmJ x (100 : Int32)) (0 : Int32)).ctx (List.Perm.refl _) (List.Perm.refl _)) hCF gw_L_call.more rfl hq_L_call ⟨Nat.le_of_ble_eq_true rfl, Nat.le_of_ble_eq_true rfl⟩ hG hF hP hD hS hA rfl rfl hl.1 rfl (Nat.le_of_ble_eq_true rfl) dL_alike_321 ⟨by show _ ≤ 200; omega, by show _ ≤ 1200; omega⟩ (fun H locs hP hD hS => ?_)
    refine lv_aload_n hx hb dL_alike_324 rfl (lv_at hl 3 rfl) ?_
    refine lv_bipush (v := (20 : Int32)) hx hb dL_alike_325 (by decide) ?_
    refine lv_iload hx hb dL_alike_327 (lv_at hl 0 rfl) ?_
    refine lv_iload_n hx hb dL_alike_329 rfl (lv_at hl 4 rfl) ?_
    refine lv_bipush (v := (100 : Int32)) hx hb dL_alike_330 (by decide) ?_
    refine lv_irem hx hb dL_alike_332 (by decide) ?_
    refine lv_iconst (v := (0 : Int32)) hx hb dL_alike_333 (by decide) ?_
    refine hwS (A0 := A) (As := [.ref (xb 0), .int (20 : Int32), .int v, .int (rmJ x (100 : Int32)), .int (0 : Int32)]) (rest := [.int (kV (callP z1 20 v (rmJ x (100 : Int32)) (0 : Int32)))]) (W1 := (wSp cy xa sa sb tr na ka z1 ++ wSp cy xb sc sd ts nb kb z2)) (W2 := (wSp cy xa sa sb tr na ka z1 ++ wSp cy xb sc sd ts nb kb z2)) ((cq_20 l hl0 D cy t xb sc sd ts nb kb o2.1 v (rmJ x (100 : Int32)) (0 : Int32)).ctx List.perm_append_comm List.perm_append_comm) hCF gw_L_call.more rfl hq_L_call ⟨Nat.le_of_ble_eq_true rfl, Nat.le_of_ble_eq_true rfl⟩ hG hF hP hD hS hA rfl rfl hl.1 rfl (Nat.le_of_ble_eq_true rfl) dL_alike_334 ⟨by show _ ≤ 200; omega, by show _ ≤ 1200; omega⟩ (fun H locs hP hD hS => ?_)
    refine lv_icmp_ne (tgt := 344) hx hb dL_alike_337 (by decide) (fun q => absurd (hq 20 (by decide) v (rmJ x (100 : Int32)) (0 : Int32)) q) (fun _ => ?_)
    refine lv_iconst (v := (1 : Int32)) hx hb dL_alike_340 (by decide) ?_
    refine lv_goto (tgt := 345) hx hb dL_alike_341 (by decide) ?_
    refine lv_istore_n (lv' := [(3, .int (1 : Int32)), (5, .int v), (0, .ref (xa 0)), (1, .ref (xb 0)), (2, .int x)]) hx hb dL_alike_345 rfl hl (by decide) rfl (fun ls hl => ?_)
    refine lv_iinc (v := (v + (1 : Int32))) (lv' := [(5, .int (v + (1 : Int32))), (3, .int (1 : Int32)), (0, .ref (xa 0)), (1, .ref (xb 0)), (2, .int x)]) hx hb dL_alike_346 hl (k := 1) rfl rfl (by decide) rfl (fun ls hl => ?_)
    refine lv_goto (tgt := 196) hx hb dL_alike_349 (by decide) ?_
    have hl : lv_has ls 6 [(5, .int (v + (1 : Int32))), (3, .int (1 : Int32)), (0, .ref (xa 0)), (1, .ref (xb 0)), (2, .int x)] := lv_sub hl [0, 1, 2, 3, 4] rfl
    refine W.widen (k := cells + 8) (n := slots + 48) (by omega) (by omega) ?_
    have c2 : v.toInt < 5 := by rw [i32_le, show (5 : Int32).toInt = 5 by decide] at c1; omega
    have e1 : (v + 1).toInt = v.toInt + 1 := by rw [i32_add (by rw [i32_1]; omega) (by rw [i32_1]; have := i32_hi v; omega), i32_1]
    refine ih (v + 1) (by omega) (by omega) (by omega) (by omega) hl hP hD hS (fun ls H locs hl hP hD hS => ?_)
    refine W.widen (k := cells + 8 * (nF + 1 + 1)) (n := slots + 48 * (nF + 1 + 1)) (by omega) (by omega) ?_
    exact kk _ _ _ hl hP hD hS
