def m_X9_partsOwed_L23 : Nat → (Nat → Int32) → Int32 → Int32 → Int32 → Int32 → Int32 → Int32 → Int32 × Int32
  | 0, _, _, _, _, _, _, _ => (0, 0)
  | nF + 1, r, x1, x2, h, o, n, k => if (9 : Int32) ≤ k then (n, k) else if x1 = (-1 : Int32) then if x2 = (-1 : Int32) then m_X9_partsOwed_L23 nF r x1 x2 h o (n + (r ((m_X9_owedAt h o (0 : Int32) (0 : Int32)) + k).toNatClampNeg)) (k + (1 : Int32)) else if x2 = o then m_X9_partsOwed_L23 nF r x1 x2 h o (n + (r ((m_X9_owedAt h o (0 : Int32) (0 : Int32)) + k).toNatClampNeg)) (k + (1 : Int32)) else (n, k) else if x1 = h then if x2 = (-1 : Int32) then m_X9_partsOwed_L23 nF r x1 x2 h o (n + (r ((m_X9_owedAt h o (0 : Int32) (0 : Int32)) + k).toNatClampNeg)) (k + (1 : Int32)) else if x2 = o then m_X9_partsOwed_L23 nF r x1 x2 h o (n + (r ((m_X9_owedAt h o (0 : Int32) (0 : Int32)) + k).toNatClampNeg)) (k + (1 : Int32)) else (n, k) else (n, k)
def m_X9_partsOwed_L14 : Nat → (Nat → Int32) → Int32 → Int32 → Int32 → Int32 → Int32 → Int32 × Int32
  | 0, _, _, _, _, _, _ => (0, 0)
  | nF + 1, r, x1, x2, h, n, o => if (5 : Int32) ≤ o then (n, o) else m_X9_partsOwed_L14 nF r x1 x2 h (m_X9_partsOwed_L23 100 r x1 x2 h o n (0 : Int32)).1 (o + (1 : Int32))
def m_X9_partsOwed_L5 : Nat → (Nat → Int32) → Int32 → Int32 → Int32 → Int32 → Int32
  | 0, _, _, _, _, _ => 0
  | nF + 1, r, x1, x2, n, h => if (5 : Int32) ≤ h then n else m_X9_partsOwed_L5 nF r x1 x2 (m_X9_partsOwed_L14 100 r x1 x2 h n (0 : Int32)).1 (h + (1 : Int32))
def m_X9_partsOwed (r : (Nat → Int32)) (x1 : Int32) (x2 : Int32) : Int32 := m_X9_partsOwed_L5 100 r x1 x2 (0 : Int32) (0 : Int32)
theorem hd_X9_partsOwed : yX9_partsOwed.cls = RX9 ∧ yX9_partsOwed.cls ≠ "java/lang/invoke/MethodHandle" ∧ yX9_partsOwed.cls ≠ "java/lang/invoke/VarHandle" ∧ (parseMethodDescriptor yX9_partsOwed.desc).map (fun d => d.parameters.length) = some 3 := by decide +kernel
set_option maxHeartbeats 8000000 in
set_option maxRecDepth 20000 in
theorem c_X9_partsOwed (l : Launch) (D : va_G) (cy : Nat → ClassId) (a0 : Nat) (r : (Nat → Int32)) (x1 : Int32) (x2 : Int32) : RO l D cy yX9_partsOwed wsX9_partsOwed ({ frames := 1, cells := 0, slots := 0, locals := 23 } : Room) (wAr cy a0 r) [.ref a0, .int x1, .int x2] (m_X9_partsOwed r x1 x2) := by
  refine RO.body (by decide) rfl (Nat.le_of_ble_eq_true rfl) ?_
  intro p e s m below meth c hx hb hml hr hts hown hlocks hP hG ls hl
  have hl : lv_has ls 7 [(0, .ref a0), (1, .int x1), (2, .int x2)] := hl
  have hCF : CallFix p m c cX9_partsOwed 7 s ([.ref a0, .int x1, .int x2] : List Value).toArray wsX9_partsOwed RX9 := ⟨hx, hb, hml, hown, hts⟩
  have L_23 : ∀ (nF : Nat) (h : Int32) (o : Int32) (n : Int32) (k : Int32), 0 ≤ k.toInt → iv 0 4 h → iv 0 4 o → ((9 : Int32).toInt - k.toInt).toNat < nF → (∀ ls : Array Slot, lv_has ls 7 [(0, .ref a0), (1, .int x1), (2, .int x2), (3, .int (m_X9_partsOwed_L23 nF r x1 x2 h o n k).1), (4, .int h), (5, .int o), (6, .int (m_X9_partsOwed_L23 nF r x1 x2 h o n k).2)] → W p l e ({ frames := 1, cells := 0, slots := 0, locals := 23 } : Room) s m ([.ref a0, .int x1, .int x2] : List Value).toArray below meth c s.heap [] 0 0 (MQ below (vp_Si (fun v_ => v_ = (m_X9_partsOwed r x1 x2))) ([.ref a0, .int x1, .int x2] : List Value).toArray s 0 0 (fun _ => False)) (F0 m 75 ls [])) → ∀ ls : Array Slot, lv_has ls 7 [(0, .ref a0), (1, .int x1), (2, .int x2), (3, .int n), (4, .int h), (5, .int o), (6, .int k)] → W p l e ({ frames := 1, cells := 0, slots := 0, locals := 23 } : Room) s m ([.ref a0, .int x1, .int x2] : List Value).toArray below meth c s.heap [] 0 0 (MQ below (vp_Si (fun v_ => v_ = (m_X9_partsOwed r x1 x2))) ([.ref a0, .int x1, .int x2] : List Value).toArray s 0 0 (fun _ => False)) (F0 m 23 ls []) := by
    intro nF h o
    induction nF with
    | zero => intro n k h0 hh ho hm; exact absurd hm (Nat.not_lt_zero _)
    | succ nF ih =>
      intro n k h0 hh ho hm K ls hl
      refine lv_iload hx hb dX9_partsOwed_23 (lv_at hl 6 rfl) ?_
      refine lv_bipush (v := (9 : Int32)) hx hb dX9_partsOwed_25 (by decide) ?_
      refine lv_icmp_ge (tgt := 75) hx hb dX9_partsOwed_27 (by decide) (fun c_1 => ?_) (fun c_1 => ?_)
      · skip
        rw [m_X9_partsOwed_L23, if_pos c_1] at K
        exact K ls (lv_sub hl [0, 1, 2, 3, 4, 5, 6] rfl)
      · skip
        refine lv_iload_n hx hb dX9_partsOwed_30 rfl (lv_at hl 1 rfl) ?_
        refine lv_iconst (v := (-1 : Int32)) hx hb dX9_partsOwed_31 (by decide) ?_
        refine lv_icmp_eq (tgt := 41) hx hb dX9_partsOwed_32 (by decide) (fun c_2 => ?_) (fun c_2 => ?_)
        · skip
          refine lv_iload_n hx hb dX9_partsOwed_41 rfl (lv_at hl 2 rfl) ?_
          refine lv_iconst (v := (-1 : Int32)) hx hb dX9_partsOwed_42 (by decide) ?_
          refine lv_icmp_eq (tgt := 52) hx hb dX9_partsOwed_43 (by decide) (fun c_3 => ?_) (fun c_3 => ?_)
          · skip
            refine lv_iload_n hx hb dX9_partsOwed_52 rfl (lv_at hl 3 rfl) ?_
            refine lv_aload_n hx hb dX9_partsOwed_53 rfl (lv_at hl 0 rfl) ?_
            refine lv_iload hx hb dX9_partsOwed_54 (lv_at hl 4 rfl) ?_
            refine lv_iload hx hb dX9_partsOwed_56 (lv_at hl 5 rfl) ?_
            refine lv_iconst (v := (0 : Int32)) hx hb dX9_partsOwed_58 (by decide) ?_
            refine lv_iconst (v := (0 : Int32)) hx hb dX9_partsOwed_59 (by decide) ?_
            refine roS (wc := ([] : va_W)) (As := [.int h, .int o, .int (0 : Int32), .int (0 : Int32)]) (rest := [.ref a0, .int n]) (c_X9_owedAt l D cy h o (0 : Int32) (0 : Int32)) hCF gX9_partsOwed_X9_owedAt rfl hd_X9_owedAt ⟨rfl, rfl, Nat.le_of_ble_eq_true rfl, Nat.le_of_ble_eq_true rfl⟩ hG va_P_nil rfl hl.1 rfl (Nat.le_of_ble_eq_true rfl) dX9_partsOwed_60 ⟨Nat.le_refl _, Nat.le_refl _⟩ ?_
            refine lv_iload hx hb dX9_partsOwed_63 (lv_at hl 6 rfl) ?_
            refine lv_iadd hx hb dX9_partsOwed_65 ?_
            refine va_iald hx hb hG.1 hP 0 0 (n := 383) (f := r) g_Ar_0 rfl (iv_in (iv_add (l := 93) (h := 325) (iv_owedAt hh ho (iv_wide (l2 := 0) (h2 := 2) (iv_lit (v := 0) (by decide)) (by decide)) (iv_wide (l2 := 0) (h2 := 2) (iv_lit (v := 0) (by decide)) (by decide))) (iv_loop (M := 9) (h := 8) h0 c_1 ((by decide)) (by decide)) (by decide)) (by decide) (by decide)) dX9_partsOwed_66 ?_
            refine lv_iadd hx hb dX9_partsOwed_67 ?_
            refine lv_istore_n (lv' := [(3, .int (n + (r ((m_X9_owedAt h o (0 : Int32) (0 : Int32)) + k).toNatClampNeg))), (0, .ref a0), (1, .int x1), (2, .int x2), (4, .int h), (5, .int o), (6, .int k)]) hx hb dX9_partsOwed_68 rfl hl (by decide) rfl (fun ls hl => ?_)
            refine lv_iinc (v := (k + (1 : Int32))) (lv' := [(6, .int (k + (1 : Int32))), (3, .int (n + (r ((m_X9_owedAt h o (0 : Int32) (0 : Int32)) + k).toNatClampNeg))), (0, .ref a0), (1, .int x1), (2, .int x2), (4, .int h), (5, .int o)]) hx hb dX9_partsOwed_69 hl (k := 6) rfl rfl (by decide) rfl (fun ls hl => ?_)
            refine lv_goto (tgt := 23) hx hb dX9_partsOwed_72 (by decide) ?_
            refine ih (n + (r ((m_X9_owedAt h o (0 : Int32) (0 : Int32)) + k).toNatClampNeg)) (k + (1 : Int32)) (lp_up h0 c_1) hh ho (lp_dec h0 c_1 hm) (by rw [m_X9_partsOwed_L23, if_neg c_1, if_pos c_2, if_pos c_3] at K; exact K) ls (lv_sub hl [2, 3, 4, 1, 5, 6, 0] rfl)
          · skip
            refine lv_iload_n hx hb dX9_partsOwed_46 rfl (lv_at hl 2 rfl) ?_
            refine lv_iload hx hb dX9_partsOwed_47 (lv_at hl 5 rfl) ?_
            refine lv_icmp_ne (tgt := 75) hx hb dX9_partsOwed_49 (by decide) (fun c_4 => ?_) (fun c_4 => ?_)
            · skip
              rw [m_X9_partsOwed_L23, if_neg c_1, if_pos c_2, if_neg c_3, if_neg c_4] at K
              exact K ls (lv_sub hl [0, 1, 2, 3, 4, 5, 6] rfl)
            · skip
              refine lv_iload_n hx hb dX9_partsOwed_52 rfl (lv_at hl 3 rfl) ?_
              refine lv_aload_n hx hb dX9_partsOwed_53 rfl (lv_at hl 0 rfl) ?_
              refine lv_iload hx hb dX9_partsOwed_54 (lv_at hl 4 rfl) ?_
              refine lv_iload hx hb dX9_partsOwed_56 (lv_at hl 5 rfl) ?_
              refine lv_iconst (v := (0 : Int32)) hx hb dX9_partsOwed_58 (by decide) ?_
              refine lv_iconst (v := (0 : Int32)) hx hb dX9_partsOwed_59 (by decide) ?_
              refine roS (wc := ([] : va_W)) (As := [.int h, .int o, .int (0 : Int32), .int (0 : Int32)]) (rest := [.ref a0, .int n]) (c_X9_owedAt l D cy h o (0 : Int32) (0 : Int32)) hCF gX9_partsOwed_X9_owedAt rfl hd_X9_owedAt ⟨rfl, rfl, Nat.le_of_ble_eq_true rfl, Nat.le_of_ble_eq_true rfl⟩ hG va_P_nil rfl hl.1 rfl (Nat.le_of_ble_eq_true rfl) dX9_partsOwed_60 ⟨Nat.le_refl _, Nat.le_refl _⟩ ?_
              refine lv_iload hx hb dX9_partsOwed_63 (lv_at hl 6 rfl) ?_
              refine lv_iadd hx hb dX9_partsOwed_65 ?_
              refine va_iald hx hb hG.1 hP 0 0 (n := 383) (f := r) g_Ar_0 rfl (iv_in (iv_add (l := 93) (h := 325) (iv_owedAt hh ho (iv_wide (l2 := 0) (h2 := 2) (iv_lit (v := 0) (by decide)) (by decide)) (iv_wide (l2 := 0) (h2 := 2) (iv_lit (v := 0) (by decide)) (by decide))) (iv_loop (M := 9) (h := 8) h0 c_1 ((by decide)) (by decide)) (by decide)) (by decide) (by decide)) dX9_partsOwed_66 ?_
              refine lv_iadd hx hb dX9_partsOwed_67 ?_
              refine lv_istore_n (lv' := [(3, .int (n + (r ((m_X9_owedAt h o (0 : Int32) (0 : Int32)) + k).toNatClampNeg))), (0, .ref a0), (1, .int x1), (2, .int x2), (4, .int h), (5, .int o), (6, .int k)]) hx hb dX9_partsOwed_68 rfl hl (by decide) rfl (fun ls hl => ?_)
              refine lv_iinc (v := (k + (1 : Int32))) (lv' := [(6, .int (k + (1 : Int32))), (3, .int (n + (r ((m_X9_owedAt h o (0 : Int32) (0 : Int32)) + k).toNatClampNeg))), (0, .ref a0), (1, .int x1), (2, .int x2), (4, .int h), (5, .int o)]) hx hb dX9_partsOwed_69 hl (k := 6) rfl rfl (by decide) rfl (fun ls hl => ?_)
              refine lv_goto (tgt := 23) hx hb dX9_partsOwed_72 (by decide) ?_
              refine ih (n + (r ((m_X9_owedAt h o (0 : Int32) (0 : Int32)) + k).toNatClampNeg)) (k + (1 : Int32)) (lp_up h0 c_1) hh ho (lp_dec h0 c_1 hm) (by rw [m_X9_partsOwed_L23, if_neg c_1, if_pos c_2, if_neg c_3, if_pos c_4] at K; exact K) ls (lv_sub hl [2, 3, 4, 1, 5, 6, 0] rfl)
        · skip
          refine lv_iload_n hx hb dX9_partsOwed_35 rfl (lv_at hl 1 rfl) ?_
          refine lv_iload hx hb dX9_partsOwed_36 (lv_at hl 4 rfl) ?_
          refine lv_icmp_ne (tgt := 75) hx hb dX9_partsOwed_38 (by decide) (fun c_5 => ?_) (fun c_5 => ?_)
          · skip
            rw [m_X9_partsOwed_L23, if_neg c_1, if_neg c_2, if_neg c_5] at K
            exact K ls (lv_sub hl [0, 1, 2, 3, 4, 5, 6] rfl)
          · skip
            refine lv_iload_n hx hb dX9_partsOwed_41 rfl (lv_at hl 2 rfl) ?_
            refine lv_iconst (v := (-1 : Int32)) hx hb dX9_partsOwed_42 (by decide) ?_
            refine lv_icmp_eq (tgt := 52) hx hb dX9_partsOwed_43 (by decide) (fun c_6 => ?_) (fun c_6 => ?_)
            · skip
              refine lv_iload_n hx hb dX9_partsOwed_52 rfl (lv_at hl 3 rfl) ?_
              refine lv_aload_n hx hb dX9_partsOwed_53 rfl (lv_at hl 0 rfl) ?_
              refine lv_iload hx hb dX9_partsOwed_54 (lv_at hl 4 rfl) ?_
              refine lv_iload hx hb dX9_partsOwed_56 (lv_at hl 5 rfl) ?_
              refine lv_iconst (v := (0 : Int32)) hx hb dX9_partsOwed_58 (by decide) ?_
              refine lv_iconst (v := (0 : Int32)) hx hb dX9_partsOwed_59 (by decide) ?_
              refine roS (wc := ([] : va_W)) (As := [.int h, .int o, .int (0 : Int32), .int (0 : Int32)]) (rest := [.ref a0, .int n]) (c_X9_owedAt l D cy h o (0 : Int32) (0 : Int32)) hCF gX9_partsOwed_X9_owedAt rfl hd_X9_owedAt ⟨rfl, rfl, Nat.le_of_ble_eq_true rfl, Nat.le_of_ble_eq_true rfl⟩ hG va_P_nil rfl hl.1 rfl (Nat.le_of_ble_eq_true rfl) dX9_partsOwed_60 ⟨Nat.le_refl _, Nat.le_refl _⟩ ?_
              refine lv_iload hx hb dX9_partsOwed_63 (lv_at hl 6 rfl) ?_
              refine lv_iadd hx hb dX9_partsOwed_65 ?_
              refine va_iald hx hb hG.1 hP 0 0 (n := 383) (f := r) g_Ar_0 rfl (iv_in (iv_add (l := 93) (h := 325) (iv_owedAt hh ho (iv_wide (l2 := 0) (h2 := 2) (iv_lit (v := 0) (by decide)) (by decide)) (iv_wide (l2 := 0) (h2 := 2) (iv_lit (v := 0) (by decide)) (by decide))) (iv_loop (M := 9) (h := 8) h0 c_1 ((by decide)) (by decide)) (by decide)) (by decide) (by decide)) dX9_partsOwed_66 ?_
              refine lv_iadd hx hb dX9_partsOwed_67 ?_
              refine lv_istore_n (lv' := [(3, .int (n + (r ((m_X9_owedAt h o (0 : Int32) (0 : Int32)) + k).toNatClampNeg))), (0, .ref a0), (1, .int x1), (2, .int x2), (4, .int h), (5, .int o), (6, .int k)]) hx hb dX9_partsOwed_68 rfl hl (by decide) rfl (fun ls hl => ?_)
              refine lv_iinc (v := (k + (1 : Int32))) (lv' := [(6, .int (k + (1 : Int32))), (3, .int (n + (r ((m_X9_owedAt h o (0 : Int32) (0 : Int32)) + k).toNatClampNeg))), (0, .ref a0), (1, .int x1), (2, .int x2), (4, .int h), (5, .int o)]) hx hb dX9_partsOwed_69 hl (k := 6) rfl rfl (by decide) rfl (fun ls hl => ?_)
              refine lv_goto (tgt := 23) hx hb dX9_partsOwed_72 (by decide) ?_
              refine ih (n + (r ((m_X9_owedAt h o (0 : Int32) (0 : Int32)) + k).toNatClampNeg)) (k + (1 : Int32)) (lp_up h0 c_1) hh ho (lp_dec h0 c_1 hm) (by rw [m_X9_partsOwed_L23, if_neg c_1, if_neg c_2, if_pos c_5, if_pos c_6] at K; exact K) ls (lv_sub hl [2, 3, 4, 1, 5, 6, 0] rfl)
            · skip
              refine lv_iload_n hx hb dX9_partsOwed_46 rfl (lv_at hl 2 rfl) ?_
              refine lv_iload hx hb dX9_partsOwed_47 (lv_at hl 5 rfl) ?_
              refine lv_icmp_ne (tgt := 75) hx hb dX9_partsOwed_49 (by decide) (fun c_7 => ?_) (fun c_7 => ?_)
              · skip
                rw [m_X9_partsOwed_L23, if_neg c_1, if_neg c_2, if_pos c_5, if_neg c_6, if_neg c_7] at K
                exact K ls (lv_sub hl [0, 1, 2, 3, 4, 5, 6] rfl)
              · skip
                refine lv_iload_n hx hb dX9_partsOwed_52 rfl (lv_at hl 3 rfl) ?_
                refine lv_aload_n hx hb dX9_partsOwed_53 rfl (lv_at hl 0 rfl) ?_
                refine lv_iload hx hb dX9_partsOwed_54 (lv_at hl 4 rfl) ?_
                refine lv_iload hx hb dX9_partsOwed_56 (lv_at hl 5 rfl) ?_
                refine lv_iconst (v := (0 : Int32)) hx hb dX9_partsOwed_58 (by decide) ?_
                refine lv_iconst (v := (0 : Int32)) hx hb dX9_partsOwed_59 (by decide) ?_
                refine roS (wc := ([] : va_W)) (As := [.int h, .int o, .int (0 : Int32), .int (0 : Int32)]) (rest := [.ref a0, .int n]) (c_X9_owedAt l D cy h o (0 : Int32) (0 : Int32)) hCF gX9_partsOwed_X9_owedAt rfl hd_X9_owedAt ⟨rfl, rfl, Nat.le_of_ble_eq_true rfl, Nat.le_of_ble_eq_true rfl⟩ hG va_P_nil rfl hl.1 rfl (Nat.le_of_ble_eq_true rfl) dX9_partsOwed_60 ⟨Nat.le_refl _, Nat.le_refl _⟩ ?_
                refine lv_iload hx hb dX9_partsOwed_63 (lv_at hl 6 rfl) ?_
                refine lv_iadd hx hb dX9_partsOwed_65 ?_
                refine va_iald hx hb hG.1 hP 0 0 (n := 383) (f := r) g_Ar_0 rfl (iv_in (iv_add (l := 93) (h := 325) (iv_owedAt hh ho (iv_wide (l2 := 0) (h2 := 2) (iv_lit (v := 0) (by decide)) (by decide)) (iv_wide (l2 := 0) (h2 := 2) (iv_lit (v := 0) (by decide)) (by decide))) (iv_loop (M := 9) (h := 8) h0 c_1 ((by decide)) (by decide)) (by decide)) (by decide) (by decide)) dX9_partsOwed_66 ?_
                refine lv_iadd hx hb dX9_partsOwed_67 ?_
                refine lv_istore_n (lv' := [(3, .int (n + (r ((m_X9_owedAt h o (0 : Int32) (0 : Int32)) + k).toNatClampNeg))), (0, .ref a0), (1, .int x1), (2, .int x2), (4, .int h), (5, .int o), (6, .int k)]) hx hb dX9_partsOwed_68 rfl hl (by decide) rfl (fun ls hl => ?_)
                refine lv_iinc (v := (k + (1 : Int32))) (lv' := [(6, .int (k + (1 : Int32))), (3, .int (n + (r ((m_X9_owedAt h o (0 : Int32) (0 : Int32)) + k).toNatClampNeg))), (0, .ref a0), (1, .int x1), (2, .int x2), (4, .int h), (5, .int o)]) hx hb dX9_partsOwed_69 hl (k := 6) rfl rfl (by decide) rfl (fun ls hl => ?_)
                refine lv_goto (tgt := 23) hx hb dX9_partsOwed_72 (by decide) ?_
                refine ih (n + (r ((m_X9_owedAt h o (0 : Int32) (0 : Int32)) + k).toNatClampNeg)) (k + (1 : Int32)) (lp_up h0 c_1) hh ho (lp_dec h0 c_1 hm) (by rw [m_X9_partsOwed_L23, if_neg c_1, if_neg c_2, if_pos c_5, if_neg c_6, if_pos c_7] at K; exact K) ls (lv_sub hl [2, 3, 4, 1, 5, 6, 0] rfl)
  have L_14 : ∀ (nF : Nat) (h : Int32) (n : Int32) (o : Int32), 0 ≤ o.toInt → iv 0 4 h → ((5 : Int32).toInt - o.toInt).toNat < nF → (∀ ls : Array Slot, lv_has ls 7 [(0, .ref a0), (1, .int x1), (2, .int x2), (3, .int (m_X9_partsOwed_L14 nF r x1 x2 h n o).1), (4, .int h), (5, .int (m_X9_partsOwed_L14 nF r x1 x2 h n o).2)] → W p l e ({ frames := 1, cells := 0, slots := 0, locals := 23 } : Room) s m ([.ref a0, .int x1, .int x2] : List Value).toArray below meth c s.heap [] 0 0 (MQ below (vp_Si (fun v_ => v_ = (m_X9_partsOwed r x1 x2))) ([.ref a0, .int x1, .int x2] : List Value).toArray s 0 0 (fun _ => False)) (F0 m 81 ls [])) → ∀ ls : Array Slot, lv_has ls 7 [(0, .ref a0), (1, .int x1), (2, .int x2), (3, .int n), (4, .int h), (5, .int o)] → W p l e ({ frames := 1, cells := 0, slots := 0, locals := 23 } : Room) s m ([.ref a0, .int x1, .int x2] : List Value).toArray below meth c s.heap [] 0 0 (MQ below (vp_Si (fun v_ => v_ = (m_X9_partsOwed r x1 x2))) ([.ref a0, .int x1, .int x2] : List Value).toArray s 0 0 (fun _ => False)) (F0 m 14 ls []) := by
    intro nF h
    induction nF with
    | zero => intro n o h0 hh hm; exact absurd hm (Nat.not_lt_zero _)
    | succ nF ih =>
      intro n o h0 hh hm K ls hl
      refine lv_iload hx hb dX9_partsOwed_14 (lv_at hl 5 rfl) ?_
      refine lv_iconst (v := (5 : Int32)) hx hb dX9_partsOwed_16 (by decide) ?_
      refine lv_icmp_ge (tgt := 81) hx hb dX9_partsOwed_17 (by decide) (fun c_8 => ?_) (fun c_8 => ?_)
      · skip
        rw [m_X9_partsOwed_L14, if_pos c_8] at K
        exact K ls (lv_sub hl [0, 1, 2, 3, 4, 5] rfl)
      · skip
        refine lv_iconst (v := (0 : Int32)) hx hb dX9_partsOwed_20 (by decide) ?_
        refine lv_istore (lv' := [(6, .int (0 : Int32)), (0, .ref a0), (1, .int x1), (2, .int x2), (3, .int n), (4, .int h), (5, .int o)]) hx hb dX9_partsOwed_21 hl (by decide) rfl (fun ls hl => ?_)
        refine L_23 100 h o n (0 : Int32) (by decide) hh (iv_loop (M := 5) (h := 4) h0 c_8 ((by decide)) (by decide)) (lp_init (M := 9) (by decide) (by decide)) (fun ls hl => ?_) ls (lv_sub hl [1, 2, 3, 4, 5, 6, 0] rfl)
        have hl : lv_has ls 7 [(0, .ref a0), (1, .int x1), (2, .int x2), (3, .int (m_X9_partsOwed_L23 100 r x1 x2 h o n (0 : Int32)).1), (4, .int h), (5, .int o), (6, .int (m_X9_partsOwed_L23 100 r x1 x2 h o n (0 : Int32)).2)] := hl
        refine lv_iinc (v := (o + (1 : Int32))) (lv' := [(5, .int (o + (1 : Int32))), (0, .ref a0), (1, .int x1), (2, .int x2), (3, .int (m_X9_partsOwed_L23 100 r x1 x2 h o n (0 : Int32)).1), (4, .int h), (6, .int (m_X9_partsOwed_L23 100 r x1 x2 h o n (0 : Int32)).2)]) hx hb dX9_partsOwed_75 hl (k := 5) rfl rfl (by decide) rfl (fun ls hl => ?_)
        refine lv_goto (tgt := 14) hx hb dX9_partsOwed_78 (by decide) ?_
        refine ih (m_X9_partsOwed_L23 100 r x1 x2 h o n (0 : Int32)).1 (o + (1 : Int32)) (lp_up h0 c_8) hh (lp_dec h0 c_8 hm) (by rw [m_X9_partsOwed_L14, if_neg c_8] at K; exact K) ls (lv_sub hl [1, 2, 3, 4, 5, 0] rfl)
  have L_5 : ∀ (nF : Nat) (n : Int32) (h : Int32), 0 ≤ h.toInt → ((5 : Int32).toInt - h.toInt).toNat < nF → m_X9_partsOwed_L5 nF r x1 x2 n h = (m_X9_partsOwed r x1 x2) → ∀ ls : Array Slot, lv_has ls 7 [(0, .ref a0), (1, .int x1), (2, .int x2), (3, .int n), (4, .int h)] → W p l e ({ frames := 1, cells := 0, slots := 0, locals := 23 } : Room) s m ([.ref a0, .int x1, .int x2] : List Value).toArray below meth c s.heap [] 0 0 (MQ below (vp_Si (fun v_ => v_ = (m_X9_partsOwed r x1 x2))) ([.ref a0, .int x1, .int x2] : List Value).toArray s 0 0 (fun _ => False)) (F0 m 5 ls []) := by
    intro nF
    induction nF with
    | zero => intro n h h0 hm; exact absurd hm (Nat.not_lt_zero _)
    | succ nF ih =>
      intro n h h0 hm hQ ls hl
      refine lv_iload hx hb dX9_partsOwed_5 (lv_at hl 4 rfl) ?_
      refine lv_iconst (v := (5 : Int32)) hx hb dX9_partsOwed_7 (by decide) ?_
      refine lv_icmp_ge (tgt := 87) hx hb dX9_partsOwed_8 (by decide) (fun c_9 => ?_) (fun c_9 => ?_)
      · skip
        refine lv_iload_n hx hb dX9_partsOwed_87 rfl (lv_at hl 3 rfl) ?_
        exact ro_iret hx hb hr hlocks dX9_partsOwed_88 (by rw [← hQ, m_X9_partsOwed_L5, if_pos c_9])
      · skip
        refine lv_iconst (v := (0 : Int32)) hx hb dX9_partsOwed_11 (by decide) ?_
        refine lv_istore (lv' := [(5, .int (0 : Int32)), (0, .ref a0), (1, .int x1), (2, .int x2), (3, .int n), (4, .int h)]) hx hb dX9_partsOwed_12 hl (by decide) rfl (fun ls hl => ?_)
        refine L_14 100 h n (0 : Int32) (by decide) (iv_loop (M := 5) (h := 4) h0 c_9 ((by decide)) (by decide)) (lp_init (M := 5) (by decide) (by decide)) (fun ls hl => ?_) ls (lv_sub hl [1, 2, 3, 4, 5, 0] rfl)
        have hl : lv_has ls 7 [(0, .ref a0), (1, .int x1), (2, .int x2), (3, .int (m_X9_partsOwed_L14 100 r x1 x2 h n (0 : Int32)).1), (4, .int h), (5, .int (m_X9_partsOwed_L14 100 r x1 x2 h n (0 : Int32)).2)] := hl
        refine lv_iinc (v := (h + (1 : Int32))) (lv' := [(4, .int (h + (1 : Int32))), (0, .ref a0), (1, .int x1), (2, .int x2), (3, .int (m_X9_partsOwed_L14 100 r x1 x2 h n (0 : Int32)).1), (5, .int (m_X9_partsOwed_L14 100 r x1 x2 h n (0 : Int32)).2)]) hx hb dX9_partsOwed_81 hl (k := 4) rfl rfl (by decide) rfl (fun ls hl => ?_)
        refine lv_goto (tgt := 5) hx hb dX9_partsOwed_84 (by decide) ?_
        exact ih  (m_X9_partsOwed_L14 100 r x1 x2 h n (0 : Int32)).1 (h + (1 : Int32)) (lp_up h0 c_9) (lp_dec h0 c_9 hm) (by rw [← hQ, m_X9_partsOwed_L5, if_neg c_9]) ls (lv_sub hl [1, 2, 3, 4, 0] rfl)
  refine lv_iconst (v := (0 : Int32)) hx hb dX9_partsOwed_0 (by decide) ?_
  refine lv_istore_n (lv' := [(3, .int (0 : Int32)), (0, .ref a0), (1, .int x1), (2, .int x2)]) hx hb dX9_partsOwed_1 rfl hl (by decide) rfl (fun ls hl => ?_)
  refine lv_iconst (v := (0 : Int32)) hx hb dX9_partsOwed_2 (by decide) ?_
  refine lv_istore (lv' := [(4, .int (0 : Int32)), (3, .int (0 : Int32)), (0, .ref a0), (1, .int x1), (2, .int x2)]) hx hb dX9_partsOwed_3 hl (by decide) rfl (fun ls hl => ?_)
  exact L_5 100 (0 : Int32) (0 : Int32) (by decide) (lp_init (M := 5) (by decide) (by decide)) (by rw [m_X9_partsOwed]) ls (lv_sub hl [2, 3, 4, 1, 0] rfl)
def m_X9_completeOn_L18 : Nat → (Nat → Int32) → Int32 → Int32 → Int32 → Int32 → Int32 → Int32 → Int32 × Int32
  | 0, _, _, _, _, _, _, _ => (0, 0)
  | nF + 1, r, x1, x2, le, pp, n, u => if (r (1 : Int32).toNatClampNeg) ≤ u then (n, u) else if (m_X9_isAt r u x1 x2) = (0 : Int32) then m_X9_completeOn_L18 nF r x1 x2 le pp (n + (0 : Int32)) (u + (1 : Int32)) else if pp = (3 : Int32) then m_X9_completeOn_L18 nF r x1 x2 le pp (n + (1 : Int32)) (u + (1 : Int32)) else if (((m_X9_of r u (3 : Int32)) >>> (pp &&& (31 : Int32))) &&& (1 : Int32)) = (1 : Int32) then m_X9_completeOn_L18 nF r x1 x2 le pp (n + (1 : Int32)) (u + (1 : Int32)) else m_X9_completeOn_L18 nF r x1 x2 le pp (n + (0 : Int32)) (u + (1 : Int32))
def m_X9_completeOn_L6 : Nat → (Nat → Int32) → Int32 → Int32 → Int32 → Int32 → Int32
  | 0, _, _, _, _, _ => 0
  | nF + 1, r, x1, x2, le, pp => if (3 : Int32) < pp then le else if le ≤ (m_X9_completeOn_L18 100 r x1 x2 le pp (0 : Int32) (0 : Int32)).1 then m_X9_completeOn_L6 nF r x1 x2 le (pp + (1 : Int32)) else m_X9_completeOn_L6 nF r x1 x2 (m_X9_completeOn_L18 100 r x1 x2 le pp (0 : Int32) (0 : Int32)).1 (pp + (1 : Int32))
def m_X9_completeOn (r : (Nat → Int32)) (x1 : Int32) (x2 : Int32) : Int32 := m_X9_completeOn_L6 100 r x1 x2 (16 : Int32) (0 : Int32)
theorem hd_X9_completeOn : yX9_completeOn.cls = RX9 ∧ yX9_completeOn.cls ≠ "java/lang/invoke/MethodHandle" ∧ yX9_completeOn.cls ≠ "java/lang/invoke/VarHandle" ∧ (parseMethodDescriptor yX9_completeOn.desc).map (fun d => d.parameters.length) = some 3 := by decide +kernel
set_option maxHeartbeats 8000000 in
set_option maxRecDepth 20000 in
theorem c_X9_completeOn (l : Launch) (D : va_G) (cy : Nat → ClassId) (a0 : Nat) (r : (Nat → Int32)) (x1 : Int32) (x2 : Int32) (hR : rOK r) : RO l D cy yX9_completeOn wsX9_completeOn ({ frames := 2, cells := 0, slots := 0, locals := 45 } : Room) (wAr cy a0 r) [.ref a0, .int x1, .int x2] (m_X9_completeOn r x1 x2) := by
  refine RO.body (by decide) rfl (Nat.le_of_ble_eq_true rfl) ?_
  intro p e s m below meth c hx hb hml hr hts hown hlocks hP hG ls hl
  have hl : lv_has ls 7 [(0, .ref a0), (1, .int x1), (2, .int x2)] := hl
  have hCF : CallFix p m c cX9_completeOn 7 s ([.ref a0, .int x1, .int x2] : List Value).toArray wsX9_completeOn RX9 := ⟨hx, hb, hml, hown, hts⟩
  have L_18 : ∀ (nF : Nat) (le : Int32) (pp : Int32) (n : Int32) (u : Int32), 0 ≤ u.toInt → ((r (1 : Int32).toNatClampNeg).toInt - u.toInt).toNat < nF → (∀ ls : Array Slot, lv_has ls 7 [(0, .ref a0), (1, .int x1), (2, .int x2), (3, .int le), (4, .int pp), (5, .int (m_X9_completeOn_L18 nF r x1 x2 le pp n u).1), (6, .int (m_X9_completeOn_L18 nF r x1 x2 le pp n u).2)] → W p l e ({ frames := 2, cells := 0, slots := 0, locals := 45 } : Room) s m ([.ref a0, .int x1, .int x2] : List Value).toArray below meth c s.heap [] 0 0 (MQ below (vp_Si (fun v_ => v_ = (m_X9_completeOn r x1 x2))) ([.ref a0, .int x1, .int x2] : List Value).toArray s 0 0 (fun _ => False)) (F0 m 75 ls [])) → ∀ ls : Array Slot, lv_has ls 7 [(0, .ref a0), (1, .int x1), (2, .int x2), (3, .int le), (4, .int pp), (5, .int n), (6, .int u)] → W p l e ({ frames := 2, cells := 0, slots := 0, locals := 45 } : Room) s m ([.ref a0, .int x1, .int x2] : List Value).toArray below meth c s.heap [] 0 0 (MQ below (vp_Si (fun v_ => v_ = (m_X9_completeOn r x1 x2))) ([.ref a0, .int x1, .int x2] : List Value).toArray s 0 0 (fun _ => False)) (F0 m 18 ls []) := by
    intro nF le pp
    induction nF with
    | zero => intro n u h0 hm; exact absurd hm (Nat.not_lt_zero _)
    | succ nF ih =>
      intro n u h0 hm K ls hl
      refine lv_iload hx hb dX9_completeOn_18 (lv_at hl 6 rfl) ?_
      refine lv_aload_n hx hb dX9_completeOn_20 rfl (lv_at hl 0 rfl) ?_
      refine lv_iconst (v := (1 : Int32)) hx hb dX9_completeOn_21 (by decide) ?_
      refine va_iald hx hb hG.1 hP 0 0 (n := 383) (f := r) g_Ar_0 rfl (bd_of (by decide) (by decide)) dX9_completeOn_22 ?_
      refine lv_icmp_ge (tgt := 75) hx hb dX9_completeOn_23 (by decide) (fun c_1 => ?_) (fun c_1 => ?_)
      · skip
        rw [m_X9_completeOn_L18, if_pos c_1] at K
        exact K ls (lv_sub hl [0, 1, 2, 3, 4, 5, 6] rfl)
      · skip
        refine lv_iload hx hb dX9_completeOn_26 (lv_at hl 5 rfl) ?_
        refine lv_aload_n hx hb dX9_completeOn_28 rfl (lv_at hl 0 rfl) ?_
        refine lv_iload hx hb dX9_completeOn_29 (lv_at hl 6 rfl) ?_
        refine lv_iload_n hx hb dX9_completeOn_31 rfl (lv_at hl 1 rfl) ?_
        refine lv_iload_n hx hb dX9_completeOn_32 rfl (lv_at hl 2 rfl) ?_
        refine roS (wc := (wAr cy a0 r)) (As := [.ref a0, .int u, .int x1, .int x2]) (rest := [.int n]) (c_X9_isAt l D cy a0 r u x1 x2 (iv_loop (M := 16) (h := 15) h0 c_1 ((rk_many hR).2) (by decide))) hCF gX9_completeOn_X9_isAt rfl hd_X9_isAt ⟨rfl, rfl, Nat.le_of_ble_eq_true rfl, Nat.le_of_ble_eq_true rfl⟩ hG hP rfl hl.1 rfl (Nat.le_of_ble_eq_true rfl) dX9_completeOn_33 ⟨Nat.le_refl _, Nat.le_refl _⟩ ?_
        refine lv_if_eq (tgt := 65) hx hb dX9_completeOn_36 (by decide) (fun c_2 => ?_) (fun c_2 => ?_)
        · skip
          refine lv_iconst (v := (0 : Int32)) hx hb dX9_completeOn_65 (by decide) ?_
          refine lv_iadd hx hb dX9_completeOn_66 ?_
          refine lv_istore (lv' := [(5, .int (n + (0 : Int32))), (0, .ref a0), (1, .int x1), (2, .int x2), (3, .int le), (4, .int pp), (6, .int u)]) hx hb dX9_completeOn_67 hl (by decide) rfl (fun ls hl => ?_)
          refine lv_iinc (v := (u + (1 : Int32))) (lv' := [(6, .int (u + (1 : Int32))), (5, .int (n + (0 : Int32))), (0, .ref a0), (1, .int x1), (2, .int x2), (3, .int le), (4, .int pp)]) hx hb dX9_completeOn_69 hl (k := 6) rfl rfl (by decide) rfl (fun ls hl => ?_)
          refine lv_goto (tgt := 18) hx hb dX9_completeOn_72 (by decide) ?_
          refine ih (n + (0 : Int32)) (u + (1 : Int32)) (lp_up h0 c_1) (lp_dec h0 c_1 hm) (by rw [m_X9_completeOn_L18, if_neg c_1, if_pos c_2] at K; exact K) ls (lv_sub hl [2, 3, 4, 5, 6, 1, 0] rfl)
        · skip
          refine lv_iload hx hb dX9_completeOn_39 (lv_at hl 4 rfl) ?_
          refine lv_iconst (v := (3 : Int32)) hx hb dX9_completeOn_41 (by decide) ?_
          refine lv_icmp_eq (tgt := 61) hx hb dX9_completeOn_42 (by decide) (fun c_3 => ?_) (fun c_3 => ?_)
          · skip
            refine lv_iconst (v := (1 : Int32)) hx hb dX9_completeOn_61 (by decide) ?_
            refine lv_goto (tgt := 66) hx hb dX9_completeOn_62 (by decide) ?_
            refine lv_iadd hx hb dX9_completeOn_66 ?_
            refine lv_istore (lv' := [(5, .int (n + (1 : Int32))), (0, .ref a0), (1, .int x1), (2, .int x2), (3, .int le), (4, .int pp), (6, .int u)]) hx hb dX9_completeOn_67 hl (by decide) rfl (fun ls hl => ?_)
            refine lv_iinc (v := (u + (1 : Int32))) (lv' := [(6, .int (u + (1 : Int32))), (5, .int (n + (1 : Int32))), (0, .ref a0), (1, .int x1), (2, .int x2), (3, .int le), (4, .int pp)]) hx hb dX9_completeOn_69 hl (k := 6) rfl rfl (by decide) rfl (fun ls hl => ?_)
            refine lv_goto (tgt := 18) hx hb dX9_completeOn_72 (by decide) ?_
            refine ih (n + (1 : Int32)) (u + (1 : Int32)) (lp_up h0 c_1) (lp_dec h0 c_1 hm) (by rw [m_X9_completeOn_L18, if_neg c_1, if_neg c_2, if_pos c_3] at K; exact K) ls (lv_sub hl [2, 3, 4, 5, 6, 1, 0] rfl)
          · skip
            refine lv_aload_n hx hb dX9_completeOn_45 rfl (lv_at hl 0 rfl) ?_
            refine lv_iload hx hb dX9_completeOn_46 (lv_at hl 6 rfl) ?_
            refine lv_iconst (v := (3 : Int32)) hx hb dX9_completeOn_48 (by decide) ?_
            refine roS (wc := (wAr cy a0 r)) (As := [.ref a0, .int u, .int (3 : Int32)]) (rest := [.int n]) (c_X9_of l D cy a0 r u (3 : Int32) (iv_loop (M := 16) (h := 15) h0 c_1 ((rk_many hR).2) (by decide)) (iv_wide (l2 := 0) (h2 := 4) (iv_lit (v := 3) (by decide)) (by decide))) hCF gX9_completeOn_X9_of rfl hd_X9_of ⟨rfl, rfl, Nat.le_of_ble_eq_true rfl, Nat.le_of_ble_eq_true rfl⟩ hG hP rfl hl.1 rfl (Nat.le_of_ble_eq_true rfl) dX9_completeOn_49 ⟨Nat.le_refl _, Nat.le_refl _⟩ ?_
            refine lv_iload hx hb dX9_completeOn_52 (lv_at hl 4 rfl) ?_
            refine lv_ishr hx hb dX9_completeOn_54 ?_
            refine lv_iconst (v := (1 : Int32)) hx hb dX9_completeOn_55 (by decide) ?_
            refine lv_iand hx hb dX9_completeOn_56 ?_
            refine lv_iconst (v := (1 : Int32)) hx hb dX9_completeOn_57 (by decide) ?_
            refine lv_icmp_ne (tgt := 65) hx hb dX9_completeOn_58 (by decide) (fun c_4 => ?_) (fun c_4 => ?_)
            · skip
              refine lv_iconst (v := (0 : Int32)) hx hb dX9_completeOn_65 (by decide) ?_
              refine lv_iadd hx hb dX9_completeOn_66 ?_
              refine lv_istore (lv' := [(5, .int (n + (0 : Int32))), (0, .ref a0), (1, .int x1), (2, .int x2), (3, .int le), (4, .int pp), (6, .int u)]) hx hb dX9_completeOn_67 hl (by decide) rfl (fun ls hl => ?_)
              refine lv_iinc (v := (u + (1 : Int32))) (lv' := [(6, .int (u + (1 : Int32))), (5, .int (n + (0 : Int32))), (0, .ref a0), (1, .int x1), (2, .int x2), (3, .int le), (4, .int pp)]) hx hb dX9_completeOn_69 hl (k := 6) rfl rfl (by decide) rfl (fun ls hl => ?_)
              refine lv_goto (tgt := 18) hx hb dX9_completeOn_72 (by decide) ?_
              refine ih (n + (0 : Int32)) (u + (1 : Int32)) (lp_up h0 c_1) (lp_dec h0 c_1 hm) (by rw [m_X9_completeOn_L18, if_neg c_1, if_neg c_2, if_neg c_3, if_neg c_4] at K; exact K) ls (lv_sub hl [2, 3, 4, 5, 6, 1, 0] rfl)
            · skip
              refine lv_iconst (v := (1 : Int32)) hx hb dX9_completeOn_61 (by decide) ?_
              refine lv_goto (tgt := 66) hx hb dX9_completeOn_62 (by decide) ?_
              refine lv_iadd hx hb dX9_completeOn_66 ?_
              refine lv_istore (lv' := [(5, .int (n + (1 : Int32))), (0, .ref a0), (1, .int x1), (2, .int x2), (3, .int le), (4, .int pp), (6, .int u)]) hx hb dX9_completeOn_67 hl (by decide) rfl (fun ls hl => ?_)
              refine lv_iinc (v := (u + (1 : Int32))) (lv' := [(6, .int (u + (1 : Int32))), (5, .int (n + (1 : Int32))), (0, .ref a0), (1, .int x1), (2, .int x2), (3, .int le), (4, .int pp)]) hx hb dX9_completeOn_69 hl (k := 6) rfl rfl (by decide) rfl (fun ls hl => ?_)
              refine lv_goto (tgt := 18) hx hb dX9_completeOn_72 (by decide) ?_
              refine ih (n + (1 : Int32)) (u + (1 : Int32)) (lp_up h0 c_1) (lp_dec h0 c_1 hm) (by rw [m_X9_completeOn_L18, if_neg c_1, if_neg c_2, if_neg c_3, if_pos c_4] at K; exact K) ls (lv_sub hl [2, 3, 4, 5, 6, 1, 0] rfl)
  have L_6 : ∀ (nF : Nat) (le : Int32) (pp : Int32), 0 ≤ pp.toInt → ((4 : Int32).toInt - pp.toInt).toNat < nF → m_X9_completeOn_L6 nF r x1 x2 le pp = (m_X9_completeOn r x1 x2) → ∀ ls : Array Slot, lv_has ls 7 [(0, .ref a0), (1, .int x1), (2, .int x2), (3, .int le), (4, .int pp)] → W p l e ({ frames := 2, cells := 0, slots := 0, locals := 45 } : Room) s m ([.ref a0, .int x1, .int x2] : List Value).toArray below meth c s.heap [] 0 0 (MQ below (vp_Si (fun v_ => v_ = (m_X9_completeOn r x1 x2))) ([.ref a0, .int x1, .int x2] : List Value).toArray s 0 0 (fun _ => False)) (F0 m 6 ls []) := by
    intro nF
    induction nF with
    | zero => intro le pp h0 hm; exact absurd hm (Nat.not_lt_zero _)
    | succ nF ih =>
      intro le pp h0 hm hQ ls hl
      refine lv_iload hx hb dX9_completeOn_6 (lv_at hl 4 rfl) ?_
      refine lv_iconst (v := (3 : Int32)) hx hb dX9_completeOn_8 (by decide) ?_
      refine lv_icmp_gt (tgt := 94) hx hb dX9_completeOn_9 (by decide) (fun c_5 => ?_) (fun c_5 => ?_)
      · skip
        refine lv_iload_n hx hb dX9_completeOn_94 rfl (lv_at hl 3 rfl) ?_
        exact ro_iret hx hb hr hlocks dX9_completeOn_95 (by rw [← hQ, m_X9_completeOn_L6, if_pos c_5])
      · skip
        refine lv_iconst (v := (0 : Int32)) hx hb dX9_completeOn_12 (by decide) ?_
        refine lv_istore (lv' := [(5, .int (0 : Int32)), (0, .ref a0), (1, .int x1), (2, .int x2), (3, .int le), (4, .int pp)]) hx hb dX9_completeOn_13 hl (by decide) rfl (fun ls hl => ?_)
        refine lv_iconst (v := (0 : Int32)) hx hb dX9_completeOn_15 (by decide) ?_
        refine lv_istore (lv' := [(6, .int (0 : Int32)), (5, .int (0 : Int32)), (0, .ref a0), (1, .int x1), (2, .int x2), (3, .int le), (4, .int pp)]) hx hb dX9_completeOn_16 hl (by decide) rfl (fun ls hl => ?_)
        refine L_18 100 le pp (0 : Int32) (0 : Int32) (by decide) (lp_init (M := 16) (rk_many hR).2 (by decide)) (fun ls hl => ?_) ls (lv_sub hl [2, 3, 4, 5, 6, 1, 0] rfl)
        have hl : lv_has ls 7 [(0, .ref a0), (1, .int x1), (2, .int x2), (3, .int le), (4, .int pp), (5, .int (m_X9_completeOn_L18 100 r x1 x2 le pp (0 : Int32) (0 : Int32)).1), (6, .int (m_X9_completeOn_L18 100 r x1 x2 le pp (0 : Int32) (0 : Int32)).2)] := hl
        refine lv_iload hx hb dX9_completeOn_75 (lv_at hl 5 rfl) ?_
        refine lv_iload_n hx hb dX9_completeOn_77 rfl (lv_at hl 3 rfl) ?_
        refine lv_icmp_ge (tgt := 86) hx hb dX9_completeOn_78 (by decide) (fun c_6 => ?_) (fun c_6 => ?_)
        · skip
          refine lv_iload_n hx hb dX9_completeOn_86 rfl (lv_at hl 3 rfl) ?_
          refine lv_istore_n (lv' := [(3, .int le), (0, .ref a0), (1, .int x1), (2, .int x2), (4, .int pp), (5, .int (m_X9_completeOn_L18 100 r x1 x2 le pp (0 : Int32) (0 : Int32)).1), (6, .int (m_X9_completeOn_L18 100 r x1 x2 le pp (0 : Int32) (0 : Int32)).2)]) hx hb dX9_completeOn_87 rfl hl (by decide) rfl (fun ls hl => ?_)
          refine lv_iinc (v := (pp + (1 : Int32))) (lv' := [(4, .int (pp + (1 : Int32))), (3, .int le), (0, .ref a0), (1, .int x1), (2, .int x2), (5, .int (m_X9_completeOn_L18 100 r x1 x2 le pp (0 : Int32) (0 : Int32)).1), (6, .int (m_X9_completeOn_L18 100 r x1 x2 le pp (0 : Int32) (0 : Int32)).2)]) hx hb dX9_completeOn_88 hl (k := 4) rfl rfl (by decide) rfl (fun ls hl => ?_)
          refine lv_goto (tgt := 6) hx hb dX9_completeOn_91 (by decide) ?_
          exact ih  le (pp + (1 : Int32)) (lp_up h0 (ft_le c_5)) (lp_dec h0 (ft_le c_5) hm) (by rw [← hQ, m_X9_completeOn_L6, if_neg c_5, if_pos c_6]) ls (lv_sub hl [2, 3, 4, 1, 0] rfl)
        · skip
          refine lv_iload hx hb dX9_completeOn_81 (lv_at hl 5 rfl) ?_
          refine lv_goto (tgt := 87) hx hb dX9_completeOn_83 (by decide) ?_
          refine lv_istore_n (lv' := [(3, .int (m_X9_completeOn_L18 100 r x1 x2 le pp (0 : Int32) (0 : Int32)).1), (0, .ref a0), (1, .int x1), (2, .int x2), (4, .int pp), (5, .int (m_X9_completeOn_L18 100 r x1 x2 le pp (0 : Int32) (0 : Int32)).1), (6, .int (m_X9_completeOn_L18 100 r x1 x2 le pp (0 : Int32) (0 : Int32)).2)]) hx hb dX9_completeOn_87 rfl hl (by decide) rfl (fun ls hl => ?_)
          refine lv_iinc (v := (pp + (1 : Int32))) (lv' := [(4, .int (pp + (1 : Int32))), (3, .int (m_X9_completeOn_L18 100 r x1 x2 le pp (0 : Int32) (0 : Int32)).1), (0, .ref a0), (1, .int x1), (2, .int x2), (5, .int (m_X9_completeOn_L18 100 r x1 x2 le pp (0 : Int32) (0 : Int32)).1), (6, .int (m_X9_completeOn_L18 100 r x1 x2 le pp (0 : Int32) (0 : Int32)).2)]) hx hb dX9_completeOn_88 hl (k := 4) rfl rfl (by decide) rfl (fun ls hl => ?_)
          refine lv_goto (tgt := 6) hx hb dX9_completeOn_91 (by decide) ?_
          exact ih  (m_X9_completeOn_L18 100 r x1 x2 le pp (0 : Int32) (0 : Int32)).1 (pp + (1 : Int32)) (lp_up h0 (ft_le c_5)) (lp_dec h0 (ft_le c_5) hm) (by rw [← hQ, m_X9_completeOn_L6, if_neg c_5, if_neg c_6]) ls (lv_sub hl [2, 3, 4, 1, 0] rfl)
  refine lv_bipush (v := (16 : Int32)) hx hb dX9_completeOn_0 (by decide) ?_
  refine lv_istore_n (lv' := [(3, .int (16 : Int32)), (0, .ref a0), (1, .int x1), (2, .int x2)]) hx hb dX9_completeOn_2 rfl hl (by decide) rfl (fun ls hl => ?_)
  refine lv_iconst (v := (0 : Int32)) hx hb dX9_completeOn_3 (by decide) ?_
  refine lv_istore (lv' := [(4, .int (0 : Int32)), (3, .int (16 : Int32)), (0, .ref a0), (1, .int x1), (2, .int x2)]) hx hb dX9_completeOn_4 hl (by decide) rfl (fun ls hl => ?_)
  exact L_6 100 (16 : Int32) (0 : Int32) (by decide) (by decide) (by rw [m_X9_completeOn]) ls (lv_sub hl [2, 3, 4, 1, 0] rfl)
def m_X9_copyState_L3 : Nat → (Nat → Int32) → (Nat → Int32) → Int32 → Int32 → Int32 → (Nat → Int32)
  | 0, _, r, _, _, _ => r
  | nF + 1, ff, r, x1, x2, k => if (383 : Int32) ≤ k then r else m_X9_copyState_L3 nF ff (upd r (x2 + k).toNatClampNeg (ff (x1 + k).toNatClampNeg)) x1 x2 (k + (1 : Int32))
def m_X9_copyState (ff : (Nat → Int32)) (g : (Nat → Int32)) (x1 : Int32) (x2 : Int32) : (Nat → Int32) := m_X9_copyState_L3 1000 ff g x1 x2 (0 : Int32)
theorem hd_X9_copyState : yX9_copyState.cls = RX9 ∧ yX9_copyState.cls ≠ "java/lang/invoke/MethodHandle" ∧ yX9_copyState.cls ≠ "java/lang/invoke/VarHandle" ∧ (parseMethodDescriptor yX9_copyState.desc).map (fun d => d.parameters.length) = some 4 := by decide +kernel
set_option maxHeartbeats 8000000 in
set_option maxRecDepth 20000 in
theorem c_X9_copyState (l : Launch) (D : va_G) (cy : Nat → ClassId) (a0 a1 n0 n1 : Nat) (ff : (Nat → Int32)) (g : (Nat → Int32)) (x1 : Int32) (x2 : Int32) (hf : 0 ≤ x1.toInt ∧ x1.toInt + 383 ≤ n0 ∧ n0 ≤ 5362) (ht : 0 ≤ x2.toInt ∧ x2.toInt + 383 ≤ n1 ∧ n1 ≤ 5362) : MV l D cy yX9_copyState wsX9_copyState ({ frames := 0, cells := 0, slots := 0, locals := 0 } : Room) (wCp cy a0 a1 n0 n1 ff g) (wCp cy a0 a1 n0 n1 ff (m_X9_copyState ff g x1 x2)) [.ref a0, .int x1, .ref a1, .int x2] := by
  refine MV.body (by decide) rfl (Nat.le_of_ble_eq_true rfl) ?_
  intro p e s m below meth c hx hb hml hr hts hown hlocks hP hG ls hl A hD hA hS
  have hl : lv_has ls 5 [(0, .ref a0), (1, .int x1), (2, .ref a1), (3, .int x2)] := hl
  have hCF : CallFix p m c cX9_copyState 5 s ([.ref a0, .int x1, .ref a1, .int x2] : List Value).toArray wsX9_copyState RX9 := ⟨hx, hb, hml, hown, hts⟩
  have hP : va_P D vwCl (wCp cy a0 a1 n0 n1 ff g) s.heap := hP
  have L_3 : ∀ (nF : Nat) (r : (Nat → Int32)) (k : Int32), 0 ≤ k.toInt → ((383 : Int32).toInt - k.toInt).toNat < nF → m_X9_copyState_L3 nF ff r x1 x2 k = (m_X9_copyState ff g x1 x2) → ∀ (H : Heap) (locs : List Loc), va_P D vwCl (wCp cy a0 a1 n0 n1 ff r) H → va_D A (wCp cy a0 a1 n0 n1 ff r) → va_S A s.heap H locs → ∀ ls : Array Slot, lv_has ls 5 [(0, .ref a0), (1, .int x1), (2, .ref a1), (3, .int x2), (4, .int k)] → W p l e ({ frames := 0, cells := 0, slots := 0, locals := 0 } : Room) s m ([.ref a0, .int x1, .ref a1, .int x2] : List Value).toArray below meth c H locs 0 0 (MQ below (va_Qv (fun (_ : Unit) => True) (fun _ t => va_P D vwCl (wCp cy a0 a1 n0 n1 ff (m_X9_copyState ff g x1 x2)) t.heap) A) ([.ref a0, .int x1, .ref a1, .int x2] : List Value).toArray s 0 0 A) (F0 m 3 ls []) := by
    intro nF
    induction nF with
    | zero => intro r k h0 hm; exact absurd hm (Nat.not_lt_zero _)
    | succ nF ih =>
      intro r k h0 hm hQ H locs hP hD hS ls hl
      refine lv_iload hx hb dX9_copyState_3 (lv_at hl 4 rfl) ?_
      refine lv_sipush (v := (383 : Int32)) hx hb dX9_copyState_5 (by decide) ?_
      refine lv_icmp_ge (tgt := 29) hx hb dX9_copyState_8 (by decide) (fun c_1 => ?_) (fun c_1 => ?_)
      · skip
        exact mu_vret hx hb hr hlocks hP hS dX9_copyState_29 (by rw [← hQ, m_X9_copyState_L3, if_pos c_1])
      · skip
        refine lv_aload_n hx hb dX9_copyState_11 rfl (lv_at hl 2 rfl) ?_
        refine lv_iload_n hx hb dX9_copyState_12 rfl (lv_at hl 3 rfl) ?_
        refine lv_iload hx hb dX9_copyState_13 (lv_at hl 4 rfl) ?_
        refine lv_iadd hx hb dX9_copyState_15 ?_
        refine lv_aload_n hx hb dX9_copyState_16 rfl (lv_at hl 0 rfl) ?_
        refine lv_iload_n hx hb dX9_copyState_17 rfl (lv_at hl 1 rfl) ?_
        refine lv_iload hx hb dX9_copyState_18 (lv_at hl 4 rfl) ?_
        refine lv_iadd hx hb dX9_copyState_20 ?_
        refine va_iald hx hb hG.1 hP 0 0 (n := n0) (f := ff) g_Cp_0 rfl (cp_b hf h0 c_1) dX9_copyState_21 ?_
        refine va_iast hx hb hG.1 hP hD hS 1 0 (n := n1) (f := r) g_Cp_1 rfl (cp_b ht h0 c_1) dX9_copyState_22 (fun H locs hP hD hS => ?_)
        have hP : va_P D vwCl (wCp cy a0 a1 n0 n1 ff (upd r (x2 + k).toNatClampNeg (ff (x1 + k).toNatClampNeg))) H := va_P_eq hP s_Cp_1
        have hD : va_D A (wCp cy a0 a1 n0 n1 ff (upd r (x2 + k).toNatClampNeg (ff (x1 + k).toNatClampNeg))) := va_D_eq hD s_Cp_1
        refine lv_iinc (v := (k + (1 : Int32))) (lv' := [(4, .int (k + (1 : Int32))), (0, .ref a0), (1, .int x1), (2, .ref a1), (3, .int x2)]) hx hb dX9_copyState_23 hl (k := 4) rfl rfl (by decide) rfl (fun ls hl => ?_)
        refine lv_goto (tgt := 3) hx hb dX9_copyState_26 (by decide) ?_
        exact ih  (upd r (x2 + k).toNatClampNeg (ff (x1 + k).toNatClampNeg)) (k + (1 : Int32)) (lp_up h0 c_1) (lp_dec h0 c_1 hm) (by rw [← hQ, m_X9_copyState_L3, if_neg c_1]) H locs hP hD hS ls (lv_sub hl [1, 2, 3, 4, 0] rfl)
  refine lv_iconst (v := (0 : Int32)) hx hb dX9_copyState_0 (by decide) ?_
  refine lv_istore (lv' := [(4, .int (0 : Int32)), (0, .ref a0), (1, .int x1), (2, .ref a1), (3, .int x2)]) hx hb dX9_copyState_1 hl (by decide) rfl (fun ls hl => ?_)
  exact L_3 1000 g (0 : Int32) (by decide) (lp_init (M := 383) (by decide) (by decide)) (by rw [m_X9_copyState]) s.heap [] hP hD hS ls (lv_sub hl [1, 2, 3, 4, 0] rfl)
def m_X9_deliverOn_L65 : Nat → (Nat → Int32) → Int32 → (Nat → Int32) → Int32 → Int32 × (Nat → Int32)
  | 0, _, _, rr, _ => (0, rr)
  | nF + 1, r, x1, rr, i => if (((m_X9_coresAt (m_X9_of r x1 (1 : Int32))) + (1 : Int32)) + ((2 : Int32) * (rr (m_X9_coresAt (m_X9_of r x1 (1 : Int32))).toNatClampNeg))) ≤ i then ((m_X9_priceOf r x1) + (m_X9_late r (r (((m_X9_coresAt (m_X9_of r x1 (1 : Int32))) + (2 : Int32)) + ((2 : Int32) * (m_X9_oldest r (m_X9_of r x1 (1 : Int32)) (m_X9_of r x1 (0 : Int32))))).toNatClampNeg) (0 : Int32)), m_X9_pays (m_X9_give (upd (upd rr (((m_X9_coresAt (m_X9_of r x1 (1 : Int32))) + (1 : Int32)) + ((2 : Int32) * (rr (m_X9_coresAt (m_X9_of r x1 (1 : Int32))).toNatClampNeg))).toNatClampNeg (0 : Int32)) (((m_X9_coresAt (m_X9_of r x1 (1 : Int32))) + (2 : Int32)) + ((2 : Int32) * ((upd rr (((m_X9_coresAt (m_X9_of r x1 (1 : Int32))) + (1 : Int32)) + ((2 : Int32) * (rr (m_X9_coresAt (m_X9_of r x1 (1 : Int32))).toNatClampNeg))).toNatClampNeg (0 : Int32)) (m_X9_coresAt (m_X9_of r x1 (1 : Int32))).toNatClampNeg))).toNatClampNeg (0 : Int32)) x1 (4 : Int32)) (m_X9_of r x1 (1 : Int32)) (4 : Int32) ((m_X9_priceOf r x1) + (m_X9_late r (r (((m_X9_coresAt (m_X9_of r x1 (1 : Int32))) + (2 : Int32)) + ((2 : Int32) * (m_X9_oldest r (m_X9_of r x1 (1 : Int32)) (m_X9_of r x1 (0 : Int32))))).toNatClampNeg) (0 : Int32)))) else m_X9_deliverOn_L65 nF r x1 (upd rr i.toNatClampNeg (rr (i + (2 : Int32)).toNatClampNeg)) (i + (1 : Int32))
def m_X9_deliverOn (r : (Nat → Int32)) (x1 : Int32) : Int32 × (Nat → Int32) := m_X9_deliverOn_L65 1000 r x1 (upd r (m_X9_coresAt (m_X9_of r x1 (1 : Int32))).toNatClampNeg ((r (m_X9_coresAt (m_X9_of r x1 (1 : Int32))).toNatClampNeg) - (1 : Int32))) (((m_X9_coresAt (m_X9_of r x1 (1 : Int32))) + (1 : Int32)) + ((2 : Int32) * (m_X9_oldest r (m_X9_of r x1 (1 : Int32)) (m_X9_of r x1 (0 : Int32)))))
theorem hd_X9_deliverOn : yX9_deliverOn.cls = RX9 ∧ yX9_deliverOn.cls ≠ "java/lang/invoke/MethodHandle" ∧ yX9_deliverOn.cls ≠ "java/lang/invoke/VarHandle" ∧ (parseMethodDescriptor yX9_deliverOn.desc).map (fun d => d.parameters.length) = some 2 := by decide +kernel
set_option maxHeartbeats 8000000 in
set_option maxRecDepth 20000 in
theorem c_X9_deliverOn (l : Launch) (D : va_G) (cy : Nat → ClassId) (a0 : Nat) (r : (Nat → Int32)) (x1 : Int32) (hR : rOK r) (h_x1 : iv 0 15 x1) (ho : ¬ (m_X9_oldest r (m_X9_of r x1 (1 : Int32)) (m_X9_of r x1 (0 : Int32))) = -1) : MU l D cy yX9_deliverOn wsX9_deliverOn ({ frames := 3, cells := 0, slots := 0, locals := 65 } : Room) (wAr cy a0 r) (wAr cy a0 (m_X9_deliverOn r x1).2) [.ref a0, .int x1] (m_X9_deliverOn r x1).1 := by
  refine MU.body (by decide) rfl (Nat.le_of_ble_eq_true rfl) ?_
  intro p e s m below meth c hx hb hml hr hts hown hlocks hP hG ls hl A hD hA hS
  have hl : lv_has ls 7 [(0, .ref a0), (1, .int x1)] := hl
  have hCF : CallFix p m c cX9_deliverOn 7 s ([.ref a0, .int x1] : List Value).toArray wsX9_deliverOn RX9 := ⟨hx, hb, hml, hown, hts⟩
  have hP : va_P D vwCl (wAr cy a0 r) s.heap := hP
  have L_65 : ∀ (nF : Nat) (rr : (Nat → Int32)) (i : Int32), iv 0 5 (rr (m_X9_coresAt (m_X9_of r x1 (1 : Int32))).toNatClampNeg) → (m_X9_coresAt (m_X9_of r x1 (1 : Int32))).toInt + 1 ≤ i.toInt → ((383 : Int32).toInt - i.toInt).toNat < nF → m_X9_deliverOn_L65 nF r x1 rr i = (m_X9_deliverOn r x1) → ∀ (H : Heap) (locs : List Loc), va_P D vwCl (wAr cy a0 rr) H → va_D A (wAr cy a0 rr) → va_S A s.heap H locs → ∀ ls : Array Slot, lv_has ls 7 [(0, .ref a0), (1, .int x1), (2, .int (m_X9_of r x1 (1 : Int32))), (3, .int (m_X9_coresAt (m_X9_of r x1 (1 : Int32)))), (4, .int (m_X9_oldest r (m_X9_of r x1 (1 : Int32)) (m_X9_of r x1 (0 : Int32)))), (5, .int ((m_X9_priceOf r x1) + (m_X9_late r (r (((m_X9_coresAt (m_X9_of r x1 (1 : Int32))) + (2 : Int32)) + ((2 : Int32) * (m_X9_oldest r (m_X9_of r x1 (1 : Int32)) (m_X9_of r x1 (0 : Int32))))).toNatClampNeg) (0 : Int32)))), (6, .int i)] → W p l e ({ frames := 3, cells := 0, slots := 0, locals := 65 } : Room) s m ([.ref a0, .int x1] : List Value).toArray below meth c H locs 0 0 (MQ below (va_Qi (fun v_ (_ : Unit) => v_ = (m_X9_deliverOn r x1).1) (fun _ t => va_P D vwCl (wAr cy a0 (m_X9_deliverOn r x1).2) t.heap) A) ([.ref a0, .int x1] : List Value).toArray s 0 0 A) (F0 m 65 ls []) := by
    intro nF
    induction nF with
    | zero => intro rr i hk5 hi hm; exact absurd hm (Nat.not_lt_zero _)
    | succ nF ih =>
      intro rr i hk5 hi hm hQ H locs hP hD hS ls hl
      refine lv_iload hx hb dX9_deliverOn_65 (lv_at hl 6 rfl) ?_
      refine lv_iload_n hx hb dX9_deliverOn_67 rfl (lv_at hl 3 rfl) ?_
      refine lv_iconst (v := (1 : Int32)) hx hb dX9_deliverOn_68 (by decide) ?_
      refine lv_iadd hx hb dX9_deliverOn_69 ?_
      refine lv_iconst (v := (2 : Int32)) hx hb dX9_deliverOn_70 (by decide) ?_
      refine lv_aload_n hx hb dX9_deliverOn_71 rfl (lv_at hl 0 rfl) ?_
      refine lv_iload_n hx hb dX9_deliverOn_72 rfl (lv_at hl 3 rfl) ?_
      refine va_iald hx hb hG.1 hP 0 0 (n := 383) (f := rr) g_Ar_0 rfl (iv_in (iv_coresAt (rk_of1 hR h_x1)) (by decide) (by decide)) dX9_deliverOn_73 ?_
      refine lv_imul hx hb dX9_deliverOn_74 ?_
      refine lv_iadd hx hb dX9_deliverOn_75 ?_
      refine lv_icmp_ge (tgt := 95) hx hb dX9_deliverOn_76 (by decide) (fun c_1 => ?_) (fun c_1 => ?_)
      · skip
        refine lv_aload_n hx hb dX9_deliverOn_95 rfl (lv_at hl 0 rfl) ?_
        refine lv_iload_n hx hb dX9_deliverOn_96 rfl (lv_at hl 3 rfl) ?_
        refine lv_iconst (v := (1 : Int32)) hx hb dX9_deliverOn_97 (by decide) ?_
        refine lv_iadd hx hb dX9_deliverOn_98 ?_
        refine lv_iconst (v := (2 : Int32)) hx hb dX9_deliverOn_99 (by decide) ?_
        refine lv_aload_n hx hb dX9_deliverOn_100 rfl (lv_at hl 0 rfl) ?_
        refine lv_iload_n hx hb dX9_deliverOn_101 rfl (lv_at hl 3 rfl) ?_
        refine va_iald hx hb hG.1 hP 0 0 (n := 383) (f := rr) g_Ar_0 rfl (iv_in (iv_coresAt (rk_of1 hR h_x1)) (by decide) (by decide)) dX9_deliverOn_102 ?_
        refine lv_imul hx hb dX9_deliverOn_103 ?_
        refine lv_iadd hx hb dX9_deliverOn_104 ?_
        refine lv_iconst (v := (0 : Int32)) hx hb dX9_deliverOn_105 (by decide) ?_
        refine va_iast hx hb hG.1 hP hD hS 0 0 (n := 383) (f := rr) g_Ar_0 rfl (iv_in (iv_add (l := 319) (h := 381) (iv_add (l := 319) (h := 371) (iv_coresAt (rk_of1 hR h_x1)) (iv_lit (v := 1) (by decide)) (by decide)) (iv_mul (l := 0) (h := 10) (iv_lit (v := 2) (by decide)) hk5 (by decide)) (by decide)) (by decide) (by decide)) dX9_deliverOn_106 (fun H locs hP hD hS => ?_)
        have hP : va_P D vwCl (wAr cy a0 (upd rr (((m_X9_coresAt (m_X9_of r x1 (1 : Int32))) + (1 : Int32)) + ((2 : Int32) * (rr (m_X9_coresAt (m_X9_of r x1 (1 : Int32))).toNatClampNeg))).toNatClampNeg (0 : Int32))) H := va_P_eq hP s_Ar_0
        have hD : va_D A (wAr cy a0 (upd rr (((m_X9_coresAt (m_X9_of r x1 (1 : Int32))) + (1 : Int32)) + ((2 : Int32) * (rr (m_X9_coresAt (m_X9_of r x1 (1 : Int32))).toNatClampNeg))).toNatClampNeg (0 : Int32))) := va_D_eq hD s_Ar_0
        refine lv_aload_n hx hb dX9_deliverOn_107 rfl (lv_at hl 0 rfl) ?_
        refine lv_iload_n hx hb dX9_deliverOn_108 rfl (lv_at hl 3 rfl) ?_
        refine lv_iconst (v := (2 : Int32)) hx hb dX9_deliverOn_109 (by decide) ?_
        refine lv_iadd hx hb dX9_deliverOn_110 ?_
        refine lv_iconst (v := (2 : Int32)) hx hb dX9_deliverOn_111 (by decide) ?_
        refine lv_aload_n hx hb dX9_deliverOn_112 rfl (lv_at hl 0 rfl) ?_
        refine lv_iload_n hx hb dX9_deliverOn_113 rfl (lv_at hl 3 rfl) ?_
        refine va_iald hx hb hG.1 hP 0 0 (n := 383) (f := (upd rr (((m_X9_coresAt (m_X9_of r x1 (1 : Int32))) + (1 : Int32)) + ((2 : Int32) * (rr (m_X9_coresAt (m_X9_of r x1 (1 : Int32))).toNatClampNeg))).toNatClampNeg (0 : Int32))) g_Ar_0 rfl (iv_in (iv_coresAt (rk_of1 hR h_x1)) (by decide) (by decide)) dX9_deliverOn_114 ?_
        refine lv_imul hx hb dX9_deliverOn_115 ?_
        refine lv_iadd hx hb dX9_deliverOn_116 ?_
        refine lv_iconst (v := (0 : Int32)) hx hb dX9_deliverOn_117 (by decide) ?_
        refine va_iast hx hb hG.1 hP hD hS 0 0 (n := 383) (f := (upd rr (((m_X9_coresAt (m_X9_of r x1 (1 : Int32))) + (1 : Int32)) + ((2 : Int32) * (rr (m_X9_coresAt (m_X9_of r x1 (1 : Int32))).toNatClampNeg))).toNatClampNeg (0 : Int32))) g_Ar_0 rfl (iv_in (iv_add (l := 320) (h := 382) (iv_add (l := 320) (h := 372) (iv_coresAt (rk_of1 hR h_x1)) (iv_lit (v := 2) (by decide)) (by decide)) (iv_mul (l := 0) (h := 10) (iv_lit (v := 2) (by decide)) (dl_ne hk5 (iv_coresAt (rk_of1 hR h_x1)) (dl_hj (iv_coresAt (rk_of1 hR h_x1)) hk5)) (by decide)) (by decide)) (by decide) (by decide)) dX9_deliverOn_118 (fun H locs hP hD hS => ?_)
        have hP : va_P D vwCl (wAr cy a0 (upd (upd rr (((m_X9_coresAt (m_X9_of r x1 (1 : Int32))) + (1 : Int32)) + ((2 : Int32) * (rr (m_X9_coresAt (m_X9_of r x1 (1 : Int32))).toNatClampNeg))).toNatClampNeg (0 : Int32)) (((m_X9_coresAt (m_X9_of r x1 (1 : Int32))) + (2 : Int32)) + ((2 : Int32) * ((upd rr (((m_X9_coresAt (m_X9_of r x1 (1 : Int32))) + (1 : Int32)) + ((2 : Int32) * (rr (m_X9_coresAt (m_X9_of r x1 (1 : Int32))).toNatClampNeg))).toNatClampNeg (0 : Int32)) (m_X9_coresAt (m_X9_of r x1 (1 : Int32))).toNatClampNeg))).toNatClampNeg (0 : Int32))) H := va_P_eq hP s_Ar_0
        have hD : va_D A (wAr cy a0 (upd (upd rr (((m_X9_coresAt (m_X9_of r x1 (1 : Int32))) + (1 : Int32)) + ((2 : Int32) * (rr (m_X9_coresAt (m_X9_of r x1 (1 : Int32))).toNatClampNeg))).toNatClampNeg (0 : Int32)) (((m_X9_coresAt (m_X9_of r x1 (1 : Int32))) + (2 : Int32)) + ((2 : Int32) * ((upd rr (((m_X9_coresAt (m_X9_of r x1 (1 : Int32))) + (1 : Int32)) + ((2 : Int32) * (rr (m_X9_coresAt (m_X9_of r x1 (1 : Int32))).toNatClampNeg))).toNatClampNeg (0 : Int32)) (m_X9_coresAt (m_X9_of r x1 (1 : Int32))).toNatClampNeg))).toNatClampNeg (0 : Int32))) := va_D_eq hD s_Ar_0
        refine lv_aload_n hx hb dX9_deliverOn_119 rfl (lv_at hl 0 rfl) ?_
        refine lv_iload_n hx hb dX9_deliverOn_120 rfl (lv_at hl 1 rfl) ?_
        refine lv_iconst (v := (4 : Int32)) hx hb dX9_deliverOn_121 (by decide) ?_
        refine mvS (A0 := A) (wc := (wAr cy a0 (upd (upd rr (((m_X9_coresAt (m_X9_of r x1 (1 : Int32))) + (1 : Int32)) + ((2 : Int32) * (rr (m_X9_coresAt (m_X9_of r x1 (1 : Int32))).toNatClampNeg))).toNatClampNeg (0 : Int32)) (((m_X9_coresAt (m_X9_of r x1 (1 : Int32))) + (2 : Int32)) + ((2 : Int32) * ((upd rr (((m_X9_coresAt (m_X9_of r x1 (1 : Int32))) + (1 : Int32)) + ((2 : Int32) * (rr (m_X9_coresAt (m_X9_of r x1 (1 : Int32))).toNatClampNeg))).toNatClampNeg (0 : Int32)) (m_X9_coresAt (m_X9_of r x1 (1 : Int32))).toNatClampNeg))).toNatClampNeg (0 : Int32)))) (As := [.ref a0, .int x1, .int (4 : Int32)]) (rest := []) (c_X9_give l D cy a0 (upd (upd rr (((m_X9_coresAt (m_X9_of r x1 (1 : Int32))) + (1 : Int32)) + ((2 : Int32) * (rr (m_X9_coresAt (m_X9_of r x1 (1 : Int32))).toNatClampNeg))).toNatClampNeg (0 : Int32)) (((m_X9_coresAt (m_X9_of r x1 (1 : Int32))) + (2 : Int32)) + ((2 : Int32) * ((upd rr (((m_X9_coresAt (m_X9_of r x1 (1 : Int32))) + (1 : Int32)) + ((2 : Int32) * (rr (m_X9_coresAt (m_X9_of r x1 (1 : Int32))).toNatClampNeg))).toNatClampNeg (0 : Int32)) (m_X9_coresAt (m_X9_of r x1 (1 : Int32))).toNatClampNeg))).toNatClampNeg (0 : Int32)) x1 (4 : Int32) h_x1) hCF gX9_deliverOn_X9_give rfl hd_X9_give ⟨rfl, rfl, Nat.le_of_ble_eq_true rfl, Nat.le_of_ble_eq_true rfl⟩ hG hP hD hS hA [0] rfl c_Ar_Ar h_Ar rfl hl.1 rfl (Nat.le_of_ble_eq_true rfl) dX9_deliverOn_122 ⟨Nat.le_refl _, Nat.le_refl _⟩ (fun H locs hP hD hS => ?_)
        have hP : va_P D vwCl (wAr cy a0 (m_X9_give (upd (upd rr (((m_X9_coresAt (m_X9_of r x1 (1 : Int32))) + (1 : Int32)) + ((2 : Int32) * (rr (m_X9_coresAt (m_X9_of r x1 (1 : Int32))).toNatClampNeg))).toNatClampNeg (0 : Int32)) (((m_X9_coresAt (m_X9_of r x1 (1 : Int32))) + (2 : Int32)) + ((2 : Int32) * ((upd rr (((m_X9_coresAt (m_X9_of r x1 (1 : Int32))) + (1 : Int32)) + ((2 : Int32) * (rr (m_X9_coresAt (m_X9_of r x1 (1 : Int32))).toNatClampNeg))).toNatClampNeg (0 : Int32)) (m_X9_coresAt (m_X9_of r x1 (1 : Int32))).toNatClampNeg))).toNatClampNeg (0 : Int32)) x1 (4 : Int32))) H := va_P_eq hP r_Ar_Ar
        have hD : va_D A (wAr cy a0 (m_X9_give (upd (upd rr (((m_X9_coresAt (m_X9_of r x1 (1 : Int32))) + (1 : Int32)) + ((2 : Int32) * (rr (m_X9_coresAt (m_X9_of r x1 (1 : Int32))).toNatClampNeg))).toNatClampNeg (0 : Int32)) (((m_X9_coresAt (m_X9_of r x1 (1 : Int32))) + (2 : Int32)) + ((2 : Int32) * ((upd rr (((m_X9_coresAt (m_X9_of r x1 (1 : Int32))) + (1 : Int32)) + ((2 : Int32) * (rr (m_X9_coresAt (m_X9_of r x1 (1 : Int32))).toNatClampNeg))).toNatClampNeg (0 : Int32)) (m_X9_coresAt (m_X9_of r x1 (1 : Int32))).toNatClampNeg))).toNatClampNeg (0 : Int32)) x1 (4 : Int32))) := va_D_eq hD r_Ar_Ar
        refine lv_aload_n hx hb dX9_deliverOn_125 rfl (lv_at hl 0 rfl) ?_
        refine lv_iload_n hx hb dX9_deliverOn_126 rfl (lv_at hl 2 rfl) ?_
        refine lv_iconst (v := (4 : Int32)) hx hb dX9_deliverOn_127 (by decide) ?_
        refine lv_iload hx hb dX9_deliverOn_128 (lv_at hl 5 rfl) ?_
        refine mvS (A0 := A) (wc := (wAr cy a0 (m_X9_give (upd (upd rr (((m_X9_coresAt (m_X9_of r x1 (1 : Int32))) + (1 : Int32)) + ((2 : Int32) * (rr (m_X9_coresAt (m_X9_of r x1 (1 : Int32))).toNatClampNeg))).toNatClampNeg (0 : Int32)) (((m_X9_coresAt (m_X9_of r x1 (1 : Int32))) + (2 : Int32)) + ((2 : Int32) * ((upd rr (((m_X9_coresAt (m_X9_of r x1 (1 : Int32))) + (1 : Int32)) + ((2 : Int32) * (rr (m_X9_coresAt (m_X9_of r x1 (1 : Int32))).toNatClampNeg))).toNatClampNeg (0 : Int32)) (m_X9_coresAt (m_X9_of r x1 (1 : Int32))).toNatClampNeg))).toNatClampNeg (0 : Int32)) x1 (4 : Int32)))) (As := [.ref a0, .int (m_X9_of r x1 (1 : Int32)), .int (4 : Int32), .int ((m_X9_priceOf r x1) + (m_X9_late r (r (((m_X9_coresAt (m_X9_of r x1 (1 : Int32))) + (2 : Int32)) + ((2 : Int32) * (m_X9_oldest r (m_X9_of r x1 (1 : Int32)) (m_X9_of r x1 (0 : Int32))))).toNatClampNeg) (0 : Int32)))]) (rest := []) (c_X9_pays l D cy a0 (m_X9_give (upd (upd rr (((m_X9_coresAt (m_X9_of r x1 (1 : Int32))) + (1 : Int32)) + ((2 : Int32) * (rr (m_X9_coresAt (m_X9_of r x1 (1 : Int32))).toNatClampNeg))).toNatClampNeg (0 : Int32)) (((m_X9_coresAt (m_X9_of r x1 (1 : Int32))) + (2 : Int32)) + ((2 : Int32) * ((upd rr (((m_X9_coresAt (m_X9_of r x1 (1 : Int32))) + (1 : Int32)) + ((2 : Int32) * (rr (m_X9_coresAt (m_X9_of r x1 (1 : Int32))).toNatClampNeg))).toNatClampNeg (0 : Int32)) (m_X9_coresAt (m_X9_of r x1 (1 : Int32))).toNatClampNeg))).toNatClampNeg (0 : Int32)) x1 (4 : Int32)) (m_X9_of r x1 (1 : Int32)) (4 : Int32) ((m_X9_priceOf r x1) + (m_X9_late r (r (((m_X9_coresAt (m_X9_of r x1 (1 : Int32))) + (2 : Int32)) + ((2 : Int32) * (m_X9_oldest r (m_X9_of r x1 (1 : Int32)) (m_X9_of r x1 (0 : Int32))))).toNatClampNeg) (0 : Int32))) (rk_of1 hR h_x1) (iv_wide (l2 := 0) (h2 := 4) (iv_lit (v := 4) (by decide)) (by decide))) hCF gX9_deliverOn_X9_pays rfl hd_X9_pays ⟨rfl, rfl, Nat.le_of_ble_eq_true rfl, Nat.le_of_ble_eq_true rfl⟩ hG hP hD hS hA [0] rfl c_Ar_Ar h_Ar rfl hl.1 rfl (Nat.le_of_ble_eq_true rfl) dX9_deliverOn_130 ⟨Nat.le_refl _, Nat.le_refl _⟩ (fun H locs hP hD hS => ?_)
        have hP : va_P D vwCl (wAr cy a0 (m_X9_pays (m_X9_give (upd (upd rr (((m_X9_coresAt (m_X9_of r x1 (1 : Int32))) + (1 : Int32)) + ((2 : Int32) * (rr (m_X9_coresAt (m_X9_of r x1 (1 : Int32))).toNatClampNeg))).toNatClampNeg (0 : Int32)) (((m_X9_coresAt (m_X9_of r x1 (1 : Int32))) + (2 : Int32)) + ((2 : Int32) * ((upd rr (((m_X9_coresAt (m_X9_of r x1 (1 : Int32))) + (1 : Int32)) + ((2 : Int32) * (rr (m_X9_coresAt (m_X9_of r x1 (1 : Int32))).toNatClampNeg))).toNatClampNeg (0 : Int32)) (m_X9_coresAt (m_X9_of r x1 (1 : Int32))).toNatClampNeg))).toNatClampNeg (0 : Int32)) x1 (4 : Int32)) (m_X9_of r x1 (1 : Int32)) (4 : Int32) ((m_X9_priceOf r x1) + (m_X9_late r (r (((m_X9_coresAt (m_X9_of r x1 (1 : Int32))) + (2 : Int32)) + ((2 : Int32) * (m_X9_oldest r (m_X9_of r x1 (1 : Int32)) (m_X9_of r x1 (0 : Int32))))).toNatClampNeg) (0 : Int32))))) H := va_P_eq hP r_Ar_Ar
        have hD : va_D A (wAr cy a0 (m_X9_pays (m_X9_give (upd (upd rr (((m_X9_coresAt (m_X9_of r x1 (1 : Int32))) + (1 : Int32)) + ((2 : Int32) * (rr (m_X9_coresAt (m_X9_of r x1 (1 : Int32))).toNatClampNeg))).toNatClampNeg (0 : Int32)) (((m_X9_coresAt (m_X9_of r x1 (1 : Int32))) + (2 : Int32)) + ((2 : Int32) * ((upd rr (((m_X9_coresAt (m_X9_of r x1 (1 : Int32))) + (1 : Int32)) + ((2 : Int32) * (rr (m_X9_coresAt (m_X9_of r x1 (1 : Int32))).toNatClampNeg))).toNatClampNeg (0 : Int32)) (m_X9_coresAt (m_X9_of r x1 (1 : Int32))).toNatClampNeg))).toNatClampNeg (0 : Int32)) x1 (4 : Int32)) (m_X9_of r x1 (1 : Int32)) (4 : Int32) ((m_X9_priceOf r x1) + (m_X9_late r (r (((m_X9_coresAt (m_X9_of r x1 (1 : Int32))) + (2 : Int32)) + ((2 : Int32) * (m_X9_oldest r (m_X9_of r x1 (1 : Int32)) (m_X9_of r x1 (0 : Int32))))).toNatClampNeg) (0 : Int32))))) := va_D_eq hD r_Ar_Ar
        refine lv_iload hx hb dX9_deliverOn_133 (lv_at hl 5 rfl) ?_
        exact mu_iret hx hb hr hlocks hP hS dX9_deliverOn_135 (by rw [← hQ, m_X9_deliverOn_L65, if_pos c_1]) (by rw [← hQ, m_X9_deliverOn_L65, if_pos c_1])
      · skip
        refine lv_aload_n hx hb dX9_deliverOn_79 rfl (lv_at hl 0 rfl) ?_
        refine lv_iload hx hb dX9_deliverOn_80 (lv_at hl 6 rfl) ?_
        refine lv_aload_n hx hb dX9_deliverOn_82 rfl (lv_at hl 0 rfl) ?_
        refine lv_iload hx hb dX9_deliverOn_83 (lv_at hl 6 rfl) ?_
        refine lv_iconst (v := (2 : Int32)) hx hb dX9_deliverOn_85 (by decide) ?_
        refine lv_iadd hx hb dX9_deliverOn_86 ?_
        refine va_iald hx hb hG.1 hP 0 0 (n := 383) (f := rr) g_Ar_0 rfl (iv_in (iv_add (l := 321) (h := 382) (dl_i (iv_coresAt (rk_of1 hR h_x1)) hk5 hi c_1) (iv_lit (v := 2) (by decide)) (by decide)) (by decide) (by decide)) dX9_deliverOn_87 ?_
        refine va_iast hx hb hG.1 hP hD hS 0 0 (n := 383) (f := rr) g_Ar_0 rfl (iv_in (dl_i (iv_coresAt (rk_of1 hR h_x1)) hk5 hi c_1) (by decide) (by decide)) dX9_deliverOn_88 (fun H locs hP hD hS => ?_)
        have hP : va_P D vwCl (wAr cy a0 (upd rr i.toNatClampNeg (rr (i + (2 : Int32)).toNatClampNeg))) H := va_P_eq hP s_Ar_0
        have hD : va_D A (wAr cy a0 (upd rr i.toNatClampNeg (rr (i + (2 : Int32)).toNatClampNeg))) := va_D_eq hD s_Ar_0
        refine lv_iinc (v := (i + (1 : Int32))) (lv' := [(6, .int (i + (1 : Int32))), (0, .ref a0), (1, .int x1), (2, .int (m_X9_of r x1 (1 : Int32))), (3, .int (m_X9_coresAt (m_X9_of r x1 (1 : Int32)))), (4, .int (m_X9_oldest r (m_X9_of r x1 (1 : Int32)) (m_X9_of r x1 (0 : Int32)))), (5, .int ((m_X9_priceOf r x1) + (m_X9_late r (r (((m_X9_coresAt (m_X9_of r x1 (1 : Int32))) + (2 : Int32)) + ((2 : Int32) * (m_X9_oldest r (m_X9_of r x1 (1 : Int32)) (m_X9_of r x1 (0 : Int32))))).toNatClampNeg) (0 : Int32))))]) hx hb dX9_deliverOn_89 hl (k := 6) rfl rfl (by decide) rfl (fun ls hl => ?_)
        refine lv_goto (tgt := 65) hx hb dX9_deliverOn_92 (by decide) ?_
        exact ih  (upd rr i.toNatClampNeg (rr (i + (2 : Int32)).toNatClampNeg)) (i + (1 : Int32)) (dl_ne hk5 (iv_coresAt (rk_of1 hR h_x1)) hi) (dl_up (dl_i (iv_coresAt (rk_of1 hR h_x1)) hk5 hi c_1) hi) (dl_dec (dl_i (iv_coresAt (rk_of1 hR h_x1)) hk5 hi c_1) hm) (by rw [← hQ, m_X9_deliverOn_L65, if_neg c_1]) H locs hP hD hS ls (lv_sub hl [1, 2, 3, 4, 5, 6, 0] rfl)
  refine lv_aload_n hx hb dX9_deliverOn_0 rfl (lv_at hl 0 rfl) ?_
  refine lv_iload_n hx hb dX9_deliverOn_1 rfl (lv_at hl 1 rfl) ?_
  refine lv_iconst (v := (1 : Int32)) hx hb dX9_deliverOn_2 (by decide) ?_
  refine roS (wc := (wAr cy a0 r)) (As := [.ref a0, .int x1, .int (1 : Int32)]) (rest := []) (c_X9_of l D cy a0 r x1 (1 : Int32) h_x1 (iv_wide (l2 := 0) (h2 := 4) (iv_lit (v := 1) (by decide)) (by decide))) hCF gX9_deliverOn_X9_of rfl hd_X9_of ⟨rfl, rfl, Nat.le_of_ble_eq_true rfl, Nat.le_of_ble_eq_true rfl⟩ hG hP rfl hl.1 rfl (Nat.le_of_ble_eq_true rfl) dX9_deliverOn_3 ⟨Nat.le_refl _, Nat.le_refl _⟩ ?_
  refine lv_istore_n (lv' := [(2, .int (m_X9_of r x1 (1 : Int32))), (0, .ref a0), (1, .int x1)]) hx hb dX9_deliverOn_6 rfl hl (by decide) rfl (fun ls hl => ?_)
  refine lv_iload_n hx hb dX9_deliverOn_7 rfl (lv_at hl 0 rfl) ?_
  refine roS (wc := ([] : va_W)) (As := [.int (m_X9_of r x1 (1 : Int32))]) (rest := []) (c_X9_coresAt l D cy (m_X9_of r x1 (1 : Int32))) hCF gX9_deliverOn_X9_coresAt rfl hd_X9_coresAt ⟨rfl, rfl, Nat.le_of_ble_eq_true rfl, Nat.le_of_ble_eq_true rfl⟩ hG va_P_nil rfl hl.1 rfl (Nat.le_of_ble_eq_true rfl) dX9_deliverOn_8 ⟨Nat.le_refl _, Nat.le_refl _⟩ ?_
  refine lv_istore_n (lv' := [(3, .int (m_X9_coresAt (m_X9_of r x1 (1 : Int32)))), (2, .int (m_X9_of r x1 (1 : Int32))), (0, .ref a0), (1, .int x1)]) hx hb dX9_deliverOn_11 rfl hl (by decide) rfl (fun ls hl => ?_)
  refine lv_aload_n hx hb dX9_deliverOn_12 rfl (lv_at hl 2 rfl) ?_
  refine lv_iload_n hx hb dX9_deliverOn_13 rfl (lv_at hl 1 rfl) ?_
  refine lv_aload_n hx hb dX9_deliverOn_14 rfl (lv_at hl 2 rfl) ?_
  refine lv_iload_n hx hb dX9_deliverOn_15 rfl (lv_at hl 3 rfl) ?_
  refine lv_iconst (v := (0 : Int32)) hx hb dX9_deliverOn_16 (by decide) ?_
  refine roS (wc := (wAr cy a0 r)) (As := [.ref a0, .int x1, .int (0 : Int32)]) (rest := [.int (m_X9_of r x1 (1 : Int32)), .ref a0]) (c_X9_of l D cy a0 r x1 (0 : Int32) h_x1 (iv_wide (l2 := 0) (h2 := 4) (iv_lit (v := 0) (by decide)) (by decide))) hCF gX9_deliverOn_X9_of rfl hd_X9_of ⟨rfl, rfl, Nat.le_of_ble_eq_true rfl, Nat.le_of_ble_eq_true rfl⟩ hG hP rfl hl.1 rfl (Nat.le_of_ble_eq_true rfl) dX9_deliverOn_17 ⟨Nat.le_refl _, Nat.le_refl _⟩ ?_
  refine roS (wc := (wAr cy a0 r)) (As := [.ref a0, .int (m_X9_of r x1 (1 : Int32)), .int (m_X9_of r x1 (0 : Int32))]) (rest := []) (c_X9_oldest l D cy a0 r (m_X9_of r x1 (1 : Int32)) (m_X9_of r x1 (0 : Int32)) hR (rk_of1 hR h_x1)) hCF gX9_deliverOn_X9_oldest rfl hd_X9_oldest ⟨rfl, rfl, Nat.le_of_ble_eq_true rfl, Nat.le_of_ble_eq_true rfl⟩ hG hP rfl hl.1 rfl (Nat.le_of_ble_eq_true rfl) dX9_deliverOn_20 ⟨Nat.le_refl _, Nat.le_refl _⟩ ?_
  refine lv_istore (lv' := [(4, .int (m_X9_oldest r (m_X9_of r x1 (1 : Int32)) (m_X9_of r x1 (0 : Int32)))), (3, .int (m_X9_coresAt (m_X9_of r x1 (1 : Int32)))), (2, .int (m_X9_of r x1 (1 : Int32))), (0, .ref a0), (1, .int x1)]) hx hb dX9_deliverOn_23 hl (by decide) rfl (fun ls hl => ?_)
  refine lv_aload_n hx hb dX9_deliverOn_25 rfl (lv_at hl 3 rfl) ?_
  refine lv_iload_n hx hb dX9_deliverOn_26 rfl (lv_at hl 4 rfl) ?_
  refine roS (wc := (wAr cy a0 r)) (As := [.ref a0, .int x1]) (rest := []) (c_X9_priceOf l D cy a0 r x1 h_x1) hCF gX9_deliverOn_X9_priceOf rfl hd_X9_priceOf ⟨rfl, rfl, Nat.le_of_ble_eq_true rfl, Nat.le_of_ble_eq_true rfl⟩ hG hP rfl hl.1 rfl (Nat.le_of_ble_eq_true rfl) dX9_deliverOn_27 ⟨Nat.le_refl _, Nat.le_refl _⟩ ?_
  refine lv_aload_n hx hb dX9_deliverOn_30 rfl (lv_at hl 3 rfl) ?_
  refine lv_aload_n hx hb dX9_deliverOn_31 rfl (lv_at hl 3 rfl) ?_
  refine lv_iload_n hx hb dX9_deliverOn_32 rfl (lv_at hl 1 rfl) ?_
  refine lv_iconst (v := (2 : Int32)) hx hb dX9_deliverOn_33 (by decide) ?_
  refine lv_iadd hx hb dX9_deliverOn_34 ?_
  refine lv_iconst (v := (2 : Int32)) hx hb dX9_deliverOn_35 (by decide) ?_
  refine lv_iload hx hb dX9_deliverOn_36 (lv_at hl 0 rfl) ?_
  refine lv_imul hx hb dX9_deliverOn_38 ?_
  refine lv_iadd hx hb dX9_deliverOn_39 ?_
  refine va_iald hx hb hG.1 hP 0 0 (n := 383) (f := r) g_Ar_0 rfl (iv_in (iv_add (l := 320) (h := 382) (iv_add (l := 320) (h := 372) (iv_coresAt (rk_of1 hR h_x1)) (iv_lit (v := 2) (by decide)) (by decide)) (iv_mul (l := 0) (h := 10) (iv_lit (v := 2) (by decide)) (oldest_rng hR (rk_of1 hR h_x1) ho) (by decide)) (by decide)) (by decide) (by decide)) dX9_deliverOn_40 ?_
  refine lv_iconst (v := (0 : Int32)) hx hb dX9_deliverOn_41 (by decide) ?_
  refine roS (wc := (wAr cy a0 r)) (As := [.ref a0, .int (r (((m_X9_coresAt (m_X9_of r x1 (1 : Int32))) + (2 : Int32)) + ((2 : Int32) * (m_X9_oldest r (m_X9_of r x1 (1 : Int32)) (m_X9_of r x1 (0 : Int32))))).toNatClampNeg), .int (0 : Int32)]) (rest := [.int (m_X9_priceOf r x1)]) (c_X9_late l D cy a0 r (r (((m_X9_coresAt (m_X9_of r x1 (1 : Int32))) + (2 : Int32)) + ((2 : Int32) * (m_X9_oldest r (m_X9_of r x1 (1 : Int32)) (m_X9_of r x1 (0 : Int32))))).toNatClampNeg) (0 : Int32)) hCF gX9_deliverOn_X9_late rfl hd_X9_late ⟨rfl, rfl, Nat.le_of_ble_eq_true rfl, Nat.le_of_ble_eq_true rfl⟩ hG hP rfl hl.1 rfl (Nat.le_of_ble_eq_true rfl) dX9_deliverOn_42 ⟨Nat.le_refl _, Nat.le_refl _⟩ ?_
  refine lv_iadd hx hb dX9_deliverOn_45 ?_
  refine lv_istore (lv' := [(5, .int ((m_X9_priceOf r x1) + (m_X9_late r (r (((m_X9_coresAt (m_X9_of r x1 (1 : Int32))) + (2 : Int32)) + ((2 : Int32) * (m_X9_oldest r (m_X9_of r x1 (1 : Int32)) (m_X9_of r x1 (0 : Int32))))).toNatClampNeg) (0 : Int32)))), (4, .int (m_X9_oldest r (m_X9_of r x1 (1 : Int32)) (m_X9_of r x1 (0 : Int32)))), (3, .int (m_X9_coresAt (m_X9_of r x1 (1 : Int32)))), (2, .int (m_X9_of r x1 (1 : Int32))), (0, .ref a0), (1, .int x1)]) hx hb dX9_deliverOn_46 hl (by decide) rfl (fun ls hl => ?_)
  refine lv_aload_n hx hb dX9_deliverOn_48 rfl (lv_at hl 4 rfl) ?_
  refine lv_iload_n hx hb dX9_deliverOn_49 rfl (lv_at hl 2 rfl) ?_
  refine lv_dup2_11 hx hb dX9_deliverOn_50 rfl rfl ?_
  refine va_iald hx hb hG.1 hP 0 0 (n := 383) (f := r) g_Ar_0 rfl (iv_in (iv_coresAt (rk_of1 hR h_x1)) (by decide) (by decide)) dX9_deliverOn_51 ?_
  refine lv_iconst (v := (1 : Int32)) hx hb dX9_deliverOn_52 (by decide) ?_
  refine lv_isub hx hb dX9_deliverOn_53 ?_
  refine va_iast hx hb hG.1 hP hD hS 0 0 (n := 383) (f := r) g_Ar_0 rfl (iv_in (iv_coresAt (rk_of1 hR h_x1)) (by decide) (by decide)) dX9_deliverOn_54 (fun H locs hP hD hS => ?_)
  have hP : va_P D vwCl (wAr cy a0 (upd r (m_X9_coresAt (m_X9_of r x1 (1 : Int32))).toNatClampNeg ((r (m_X9_coresAt (m_X9_of r x1 (1 : Int32))).toNatClampNeg) - (1 : Int32)))) H := va_P_eq hP s_Ar_0
  have hD : va_D A (wAr cy a0 (upd r (m_X9_coresAt (m_X9_of r x1 (1 : Int32))).toNatClampNeg ((r (m_X9_coresAt (m_X9_of r x1 (1 : Int32))).toNatClampNeg) - (1 : Int32)))) := va_D_eq hD s_Ar_0
  refine lv_iload_n hx hb dX9_deliverOn_55 rfl (lv_at hl 2 rfl) ?_
  refine lv_iconst (v := (1 : Int32)) hx hb dX9_deliverOn_56 (by decide) ?_
  refine lv_iadd hx hb dX9_deliverOn_57 ?_
  refine lv_iconst (v := (2 : Int32)) hx hb dX9_deliverOn_58 (by decide) ?_
  refine lv_iload hx hb dX9_deliverOn_59 (lv_at hl 1 rfl) ?_
  refine lv_imul hx hb dX9_deliverOn_61 ?_
  refine lv_iadd hx hb dX9_deliverOn_62 ?_
  refine lv_istore (lv' := [(6, .int (((m_X9_coresAt (m_X9_of r x1 (1 : Int32))) + (1 : Int32)) + ((2 : Int32) * (m_X9_oldest r (m_X9_of r x1 (1 : Int32)) (m_X9_of r x1 (0 : Int32)))))), (5, .int ((m_X9_priceOf r x1) + (m_X9_late r (r (((m_X9_coresAt (m_X9_of r x1 (1 : Int32))) + (2 : Int32)) + ((2 : Int32) * (m_X9_oldest r (m_X9_of r x1 (1 : Int32)) (m_X9_of r x1 (0 : Int32))))).toNatClampNeg) (0 : Int32)))), (4, .int (m_X9_oldest r (m_X9_of r x1 (1 : Int32)) (m_X9_of r x1 (0 : Int32)))), (3, .int (m_X9_coresAt (m_X9_of r x1 (1 : Int32)))), (2, .int (m_X9_of r x1 (1 : Int32))), (0, .ref a0), (1, .int x1)]) hx hb dX9_deliverOn_63 hl (by decide) rfl (fun ls hl => ?_)
  exact L_65 1000 (upd r (m_X9_coresAt (m_X9_of r x1 (1 : Int32))).toNatClampNeg ((r (m_X9_coresAt (m_X9_of r x1 (1 : Int32))).toNatClampNeg) - (1 : Int32))) (((m_X9_coresAt (m_X9_of r x1 (1 : Int32))) + (1 : Int32)) + ((2 : Int32) * (m_X9_oldest r (m_X9_of r x1 (1 : Int32)) (m_X9_of r x1 (0 : Int32))))) (iv_us (iv_sub (l := 0) (h := 5) (oldest_cnt hR (rk_of1 hR h_x1) ho) (iv_lit (v := 1) (by decide)) (by decide))) (dl_hj (iv_coresAt (rk_of1 hR h_x1)) (oldest_rng hR (rk_of1 hR h_x1) ho)) (dl_m (iv_coresAt (rk_of1 hR h_x1)) (dl_hj (iv_coresAt (rk_of1 hR h_x1)) (oldest_rng hR (rk_of1 hR h_x1) ho))) (by rw [m_X9_deliverOn]) H locs hP hD hS ls (lv_sub hl [5, 6, 4, 3, 2, 1, 0] rfl)
def m_X9_thrown (mo : MoT) : Int32 := mR mo
theorem hd_X9_thrown : yX9_thrown.cls = RX9 ∧ yX9_thrown.cls ≠ "java/lang/invoke/MethodHandle" ∧ yX9_thrown.cls ≠ "java/lang/invoke/VarHandle" ∧ (parseMethodDescriptor yX9_thrown.desc).map (fun d => d.parameters.length) = some 0 := by decide +kernel
set_option maxHeartbeats 8000000 in
set_option maxRecDepth 20000 in
theorem c_X9_thrown (l : Launch) (D : va_G) (cy : Nat → ClassId) (a0 a1 a2 a3 a4 a5 a6 : Nat) (mo : MoT) : RO l D cy yX9_thrown wsX9_thrown ({ frames := 0, cells := 0, slots := 0, locals := 0 } : Room) (wMo cy a0 a1 a2 a3 a4 a5 a6 mo) [.ref a0] (m_X9_thrown mo) := by
  refine RO.body (by decide) rfl (Nat.le_of_ble_eq_true rfl) ?_
  intro p e s m below meth c hx hb hml hr hts hown hlocks hP hG ls hl
  have hl : lv_has ls 1 [(0, .ref a0)] := hl
  have hCF : CallFix p m c cX9_thrown 1 s ([.ref a0] : List Value).toArray wsX9_thrown RX9 := ⟨hx, hb, hml, hown, hts⟩
  have in_X9 : ∀ w ∈ u_ws RX9 TX9 11, w ∈ wsX9_thrown := fun _ h => List.mem_cons_of_mem _ (List.mem_append_right _ h)
  have k_0 := hts (Cond.fieldLink RX9 33 "SparePoolModel" "refusal" "I") (List.mem_of_getElem? (i := 1) rfl)
  refine lv_aload_n hx hb dX9_thrown_0 rfl (lv_at hl 0 rfl) ?_
  refine va_get (D := D) (ci := 7) (v := .int (mR mo)) (C := RX9) (T := TX9) (N := 11) hx hb hts in_X9 hown hG.1 hP 0 g_Mo_0 rfl 0 (by decide) k_0 (fun _ h9 => h9) rfl dX9_thrown_1 ?_
  exact ro_iret hx hb hr hlocks dX9_thrown_4 (by rw [m_X9_thrown])
theorem iv_ne120 {x : Int32} (h : iv 0 120 x) (c : ¬ x = 120) : iv 0 119 x := by
  have h5 : ¬ x.toInt = 120 := fun q => c (Int32.toInt_inj.mp (by rw [q]; decide))
  exact ⟨h.1, by have := h.2; omega⟩
def m_X9_refused (mo : MoT) (x1 : Int32) : Int32 × MoT := (if x1 ≤ (0 : Int32) then (0 : Int32) else (1 : Int32), mR' mo x1)
theorem hd_X9_refused : yX9_refused.cls = RX9 ∧ yX9_refused.cls ≠ "java/lang/invoke/MethodHandle" ∧ yX9_refused.cls ≠ "java/lang/invoke/VarHandle" ∧ (parseMethodDescriptor yX9_refused.desc).map (fun d => d.parameters.length) = some 1 := by decide +kernel
set_option maxHeartbeats 8000000 in
set_option maxRecDepth 20000 in
theorem c_X9_refused (l : Launch) (D : va_G) (cy : Nat → ClassId) (a0 a1 a2 a3 a4 a5 a6 : Nat) (mo : MoT) (x1 : Int32) : MU l D cy yX9_refused wsX9_refused ({ frames := 0, cells := 0, slots := 0, locals := 0 } : Room) (wMo cy a0 a1 a2 a3 a4 a5 a6 mo) (wMo cy a0 a1 a2 a3 a4 a5 a6 (m_X9_refused mo x1).2) [.ref a0, .int x1] (m_X9_refused mo x1).1 := by
  refine MU.body (by decide) rfl (Nat.le_of_ble_eq_true rfl) ?_
  intro p e s m below meth c hx hb hml hr hts hown hlocks hP hG ls hl A hD hA hS
  have hl : lv_has ls 2 [(0, .ref a0), (1, .int x1)] := hl
  have hCF : CallFix p m c cX9_refused 2 s ([.ref a0, .int x1] : List Value).toArray wsX9_refused RX9 := ⟨hx, hb, hml, hown, hts⟩
  have in_X9 : ∀ w ∈ u_ws RX9 TX9 11, w ∈ wsX9_refused := fun _ h => List.mem_cons_of_mem _ (List.mem_append_right _ h)
  have k_0 := hts (Cond.fieldLink RX9 33 "SparePoolModel" "refusal" "I") (List.mem_of_getElem? (i := 1) rfl)
  have hP : va_P D vwCl (wMo cy a0 a1 a2 a3 a4 a5 a6 mo) s.heap := hP
  refine lv_aload_n hx hb dX9_refused_0 rfl (lv_at hl 0 rfl) ?_
  refine lv_iload_n hx hb dX9_refused_1 rfl (lv_at hl 1 rfl) ?_
  refine va_put (D := D) (ci := 7) (v := .int x1) (ty := .int) (C := RX9) (T := TX9) (N := 11) hx hb hts in_X9 tyX9 tyX9_ok nmX9 hown hG.1 hP hD hS 0 g_Mo_0 rfl 0 (by decide) k_0 (fun _ h9 => h9) rfl (by decide +kernel) rfl rfl (Nat.le_of_ble_eq_true rfl) dX9_refused_2 (fun H locs hP hD hS => ?_)
  have hP : va_P D vwCl (wMo cy a0 a1 a2 a3 a4 a5 a6 (mR' mo x1)) H := va_P_eq hP s_Mo_0_0
  have hD : va_D A (wMo cy a0 a1 a2 a3 a4 a5 a6 (mR' mo x1)) := va_D_eq hD s_Mo_0_0
  refine lv_iload_n hx hb dX9_refused_5 rfl (lv_at hl 1 rfl) ?_
  refine lv_if_le (tgt := 13) hx hb dX9_refused_6 (by decide) (fun c_1 => ?_) (fun c_1 => ?_)
  · skip
    refine lv_iconst (v := (0 : Int32)) hx hb dX9_refused_13 (by decide) ?_
    exact mu_zret hx hb hr hlocks rfl hP hS dX9_refused_14 (by rw [m_X9_refused, if_pos c_1]) (by rw [m_X9_refused, if_pos c_1])
  · skip
    refine lv_iconst (v := (1 : Int32)) hx hb dX9_refused_9 (by decide) ?_
    refine lv_goto (tgt := 14) hx hb dX9_refused_10 (by decide) ?_
    exact mu_zret hx hb hr hlocks rfl hP hS dX9_refused_14 (by rw [m_X9_refused, if_neg c_1]) (by rw [m_X9_refused, if_neg c_1])
theorem rf_lit0 (mo : MoT) : (m_X9_refused mo 0).1 = 0 := by
  rw [m_X9_refused]
  show (if (0 : Int32) ≤ 0 then (0 : Int32) else 1) = 0
  decide
theorem rf_lit1 (mo : MoT) : ¬ (m_X9_refused mo 1).1 = 0 := by
  rw [m_X9_refused]
  show ¬ (if (1 : Int32) ≤ 0 then (0 : Int32) else 1) = 0
  decide
theorem rf_lit2 (mo : MoT) : ¬ (m_X9_refused mo 2).1 = 0 := by
  rw [m_X9_refused]
  show ¬ (if (2 : Int32) ≤ 0 then (0 : Int32) else 1) = 0
  decide
theorem rf_zero {mo : MoT} {w : Int32} (hw : 0 ≤ w.toInt) (c : (m_X9_refused mo w).1 = 0) : w = 0 := by
  rw [m_X9_refused] at c
  dsimp only at c
  split at c
  · rename_i h
    rw [i32_le, i32_0] at h
    exact Int32.toInt_inj.mp (by rw [i32_0]; omega)
  · exact absurd c (by decide)
theorem iv_ne14 {x : Int32} (h : iv 0 14 x) (c : ¬ x = 14) : iv 0 13 x := by
  have h5 : ¬ x.toInt = 14 := fun q => c (Int32.toInt_inj.mp (by rw [q]; decide))
  exact ⟨h.1, by have := h.2; omega⟩
theorem iv_ne0 {x : Int32} {u : Int} (h : iv 0 u x) (c : ¬ x = 0) : iv 1 u x := by
  have h5 : ¬ x.toInt = 0 := fun q => c (Int32.toInt_inj.mp (by rw [q]; decide))
  exact ⟨by have := h.1; omega, h.2⟩
theorem iv_eq {x y : Int32} {v : Int} (c : x = y) (h : y.toInt = v) : iv v v x := by subst c; exact iv_lit h
theorem iv_cut {x B : Int32} {l u h : Int} (a : iv l u x) (c : x < B) (e : B.toInt = h + 1) : iv l h x := by
  rw [i32_lt] at c
  exact ⟨a.1, by omega⟩
theorem iv_cut2 {x B : Int32} {l u h : Int} (a : iv l u x) (c : ¬ B ≤ x) (e : B.toInt = h + 1) : iv l h x := by
  rw [i32_le] at c
  exact ⟨a.1, by omega⟩
theorem iv_nlt {x : Int32} (c : 0 ≤ x) : ¬ x < 0 := by
  rw [i32_le, i32_0] at c
  rw [i32_lt, i32_0]
  omega
theorem iv_lu {x B : Int32} {l u h : Int} (c1 : ¬ x < 0) (c2 : ¬ B ≤ x) (hB : iv l u B) (e : h = u - 1) : iv 0 h x := by
  rw [i32_lt, i32_0] at c1
  rw [i32_le] at c2
  have := hB.2
  exact ⟨by omega, by omega⟩
theorem iv_lu2 {x B : Int32} {l u h : Int} (c1 : ¬ x < 0) (c2 : x < B) (hB : iv l u B) (e : h = u - 1) : iv 0 h x := by
  rw [i32_lt, i32_0] at c1
  rw [i32_lt] at c2
  have := hB.2
  exact ⟨by omega, by omega⟩
