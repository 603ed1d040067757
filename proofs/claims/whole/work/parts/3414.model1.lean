def m_X9_begin_L2 : Nat → (Nat → Int32) → Int32 → (Nat → Int32)
  | 0, rr, _ => rr
  | nF + 1, rr, k => if (383 : Int32) ≤ k then upd (upd (upd rr (2 : Int32).toNatClampNeg (5 : Int32)) (3 : Int32).toNatClampNeg (100 : Int32)) (4 : Int32).toNatClampNeg (20 : Int32) else m_X9_begin_L2 nF (upd rr k.toNatClampNeg (0 : Int32)) (k + (1 : Int32))
def m_X9_begin (r : (Nat → Int32)) : (Nat → Int32) := m_X9_begin_L2 1000 r (0 : Int32)
theorem hd_X9_begin : yX9_begin.cls = RX9 ∧ yX9_begin.cls ≠ "java/lang/invoke/MethodHandle" ∧ yX9_begin.cls ≠ "java/lang/invoke/VarHandle" ∧ (parseMethodDescriptor yX9_begin.desc).map (fun d => d.parameters.length) = some 1 := by decide +kernel
set_option maxHeartbeats 8000000 in
set_option maxRecDepth 20000 in
theorem c_X9_begin (l : Launch) (D : va_G) (cy : Nat → ClassId) (a0 : Nat) (r : (Nat → Int32)) : MV l D cy yX9_begin wsX9_begin ({ frames := 0, cells := 0, slots := 0, locals := 0 } : Room) (wAr cy a0 r) (wAr cy a0 (m_X9_begin r)) [.ref a0] := by
  refine MV.body (by decide) rfl (Nat.le_of_ble_eq_true rfl) ?_
  intro p e s m below meth c hx hb hml hr hts hown hlocks hP hG ls hl A hD hA hS
  have hl : lv_has ls 2 [(0, .ref a0)] := hl
  have hCF : CallFix p m c cX9_begin 2 s ([.ref a0] : List Value).toArray wsX9_begin RX9 := ⟨hx, hb, hml, hown, hts⟩
  have hP : va_P D vwCl (wAr cy a0 r) s.heap := hP
  have L_2 : ∀ (nF : Nat) (rr : (Nat → Int32)) (k : Int32), 0 ≤ k.toInt → ((383 : Int32).toInt - k.toInt).toNat < nF → m_X9_begin_L2 nF rr k = (m_X9_begin r) → ∀ (H : Heap) (locs : List Loc), va_P D vwCl (wAr cy a0 rr) H → va_D A (wAr cy a0 rr) → va_S A s.heap H locs → ∀ ls : Array Slot, lv_has ls 2 [(0, .ref a0), (1, .int k)] → W p l e ({ frames := 0, cells := 0, slots := 0, locals := 0 } : Room) s m ([.ref a0] : List Value).toArray below meth c H locs 0 0 (MQ below (va_Qv (fun (_ : Unit) => True) (fun _ t => va_P D vwCl (wAr cy a0 (m_X9_begin r)) t.heap) A) ([.ref a0] : List Value).toArray s 0 0 A) (F0 m 2 ls []) := by
    intro nF
    induction nF with
    | zero => intro rr k h0 hm; exact absurd hm (Nat.not_lt_zero _)
    | succ nF ih =>
      intro rr k h0 hm hQ H locs hP hD hS ls hl
      refine lv_iload_n hx hb dX9_begin_2 rfl (lv_at hl 1 rfl) ?_
      refine lv_sipush (v := (383 : Int32)) hx hb dX9_begin_3 (by decide) ?_
      refine lv_icmp_ge (tgt := 19) hx hb dX9_begin_6 (by decide) (fun c_1 => ?_) (fun c_1 => ?_)
      · skip
        refine lv_aload_n hx hb dX9_begin_19 rfl (lv_at hl 0 rfl) ?_
        refine lv_iconst (v := (2 : Int32)) hx hb dX9_begin_20 (by decide) ?_
        refine lv_iconst (v := (5 : Int32)) hx hb dX9_begin_21 (by decide) ?_
        refine va_iast hx hb hG.1 hP hD hS 0 0 (n := 383) (f := rr) g_Ar_0 rfl (bd_of (by decide) (by decide)) dX9_begin_22 (fun H locs hP hD hS => ?_)
        have hP : va_P D vwCl (wAr cy a0 (upd rr (2 : Int32).toNatClampNeg (5 : Int32))) H := va_P_eq hP s_Ar_0
        have hD : va_D A (wAr cy a0 (upd rr (2 : Int32).toNatClampNeg (5 : Int32))) := va_D_eq hD s_Ar_0
        refine lv_aload_n hx hb dX9_begin_23 rfl (lv_at hl 0 rfl) ?_
        refine lv_iconst (v := (3 : Int32)) hx hb dX9_begin_24 (by decide) ?_
        refine lv_bipush (v := (100 : Int32)) hx hb dX9_begin_25 (by decide) ?_
        refine va_iast hx hb hG.1 hP hD hS 0 0 (n := 383) (f := (upd rr (2 : Int32).toNatClampNeg (5 : Int32))) g_Ar_0 rfl (bd_of (by decide) (by decide)) dX9_begin_27 (fun H locs hP hD hS => ?_)
        have hP : va_P D vwCl (wAr cy a0 (upd (upd rr (2 : Int32).toNatClampNeg (5 : Int32)) (3 : Int32).toNatClampNeg (100 : Int32))) H := va_P_eq hP s_Ar_0
        have hD : va_D A (wAr cy a0 (upd (upd rr (2 : Int32).toNatClampNeg (5 : Int32)) (3 : Int32).toNatClampNeg (100 : Int32))) := va_D_eq hD s_Ar_0
        refine lv_aload_n hx hb dX9_begin_28 rfl (lv_at hl 0 rfl) ?_
        refine lv_iconst (v := (4 : Int32)) hx hb dX9_begin_29 (by decide) ?_
        refine lv_bipush (v := (20 : Int32)) hx hb dX9_begin_30 (by decide) ?_
        refine va_iast hx hb hG.1 hP hD hS 0 0 (n := 383) (f := (upd (upd rr (2 : Int32).toNatClampNeg (5 : Int32)) (3 : Int32).toNatClampNeg (100 : Int32))) g_Ar_0 rfl (bd_of (by decide) (by decide)) dX9_begin_32 (fun H locs hP hD hS => ?_)
        have hP : va_P D vwCl (wAr cy a0 (upd (upd (upd rr (2 : Int32).toNatClampNeg (5 : Int32)) (3 : Int32).toNatClampNeg (100 : Int32)) (4 : Int32).toNatClampNeg (20 : Int32))) H := va_P_eq hP s_Ar_0
        have hD : va_D A (wAr cy a0 (upd (upd (upd rr (2 : Int32).toNatClampNeg (5 : Int32)) (3 : Int32).toNatClampNeg (100 : Int32)) (4 : Int32).toNatClampNeg (20 : Int32))) := va_D_eq hD s_Ar_0
        exact mu_vret hx hb hr hlocks hP hS dX9_begin_33 (by rw [← hQ, m_X9_begin_L2, if_pos c_1])
      · skip
        refine lv_aload_n hx hb dX9_begin_9 rfl (lv_at hl 0 rfl) ?_
        refine lv_iload_n hx hb dX9_begin_10 rfl (lv_at hl 1 rfl) ?_
        refine lv_iconst (v := (0 : Int32)) hx hb dX9_begin_11 (by decide) ?_
        refine va_iast hx hb hG.1 hP hD hS 0 0 (n := 383) (f := rr) g_Ar_0 rfl (bd_loop h0 c_1 ((by decide))) dX9_begin_12 (fun H locs hP hD hS => ?_)
        have hP : va_P D vwCl (wAr cy a0 (upd rr k.toNatClampNeg (0 : Int32))) H := va_P_eq hP s_Ar_0
        have hD : va_D A (wAr cy a0 (upd rr k.toNatClampNeg (0 : Int32))) := va_D_eq hD s_Ar_0
        refine lv_iinc (v := (k + (1 : Int32))) (lv' := [(1, .int (k + (1 : Int32))), (0, .ref a0)]) hx hb dX9_begin_13 hl (k := 1) rfl rfl (by decide) rfl (fun ls hl => ?_)
        refine lv_goto (tgt := 2) hx hb dX9_begin_16 (by decide) ?_
        exact ih  (upd rr k.toNatClampNeg (0 : Int32)) (k + (1 : Int32)) (lp_up h0 c_1) (lp_dec h0 c_1 hm) (by rw [← hQ, m_X9_begin_L2, if_neg c_1]) H locs hP hD hS ls (lv_sub hl [1, 0] rfl)
  refine lv_iconst (v := (0 : Int32)) hx hb dX9_begin_0 (by decide) ?_
  refine lv_istore_n (lv' := [(1, .int (0 : Int32)), (0, .ref a0)]) hx hb dX9_begin_1 rfl hl (by decide) rfl (fun ls hl => ?_)
  exact L_2 1000 r (0 : Int32) (by decide) (lp_init (M := 383) (by decide) (by decide)) (by rw [m_X9_begin]) s.heap [] hP hD hS ls (lv_sub hl [1, 0] rfl)
theorem cp_iv {x : Int32} {l h : Int} {n : Nat} (a : iv l h x) (e : 0 ≤ l ∧ h + 383 ≤ n ∧ n ≤ 5362) : 0 ≤ x.toInt ∧ x.toInt + 383 ≤ n ∧ n ≤ 5362 := by
  have := a.1
  have := a.2
  omega
theorem cp_b {x k : Int32} {n : Nat} (h : 0 ≤ x.toInt ∧ x.toInt + 383 ≤ n ∧ n ≤ 5362) (h0 : 0 ≤ k.toInt) (c : ¬ (383 : Int32) ≤ k) : vp_in (x + k) n := by
  rw [i32_le] at c
  have : (383 : Int32).toInt = 383 := by decide
  have e := i32_add (x := x) (y := k) (by omega) (by omega)
  exact bd_of (by omega) (by omega)
def m_X9_usable_L4 : Nat → (Nat → Int32) → Int32 → Int32 → Int32
  | 0, _, _, _ => 0
  | nF + 1, r, n, u => if (r (1 : Int32).toNatClampNeg) ≤ u then n else if (m_X9_of r u (3 : Int32)) = (7 : Int32) then m_X9_usable_L4 nF r (n + (1 : Int32)) (u + (1 : Int32)) else m_X9_usable_L4 nF r (n + (0 : Int32)) (u + (1 : Int32))
def m_X9_usable (r : (Nat → Int32)) : Int32 := m_X9_usable_L4 100 r (0 : Int32) (0 : Int32)
theorem hd_X9_usable : yX9_usable.cls = RX9 ∧ yX9_usable.cls ≠ "java/lang/invoke/MethodHandle" ∧ yX9_usable.cls ≠ "java/lang/invoke/VarHandle" ∧ (parseMethodDescriptor yX9_usable.desc).map (fun d => d.parameters.length) = some 1 := by decide +kernel
set_option maxHeartbeats 8000000 in
set_option maxRecDepth 20000 in
theorem c_X9_usable (l : Launch) (D : va_G) (cy : Nat → ClassId) (a0 : Nat) (r : (Nat → Int32)) (hR : rOK r) : RO l D cy yX9_usable wsX9_usable ({ frames := 1, cells := 0, slots := 0, locals := 22 } : Room) (wAr cy a0 r) [.ref a0] (m_X9_usable r) := by
  refine RO.body (by decide) rfl (Nat.le_of_ble_eq_true rfl) ?_
  intro p e s m below meth c hx hb hml hr hts hown hlocks hP hG ls hl
  have hl : lv_has ls 3 [(0, .ref a0)] := hl
  have hCF : CallFix p m c cX9_usable 3 s ([.ref a0] : List Value).toArray wsX9_usable RX9 := ⟨hx, hb, hml, hown, hts⟩
  have L_4 : ∀ (nF : Nat) (n : Int32) (u : Int32), 0 ≤ u.toInt → ((r (1 : Int32).toNatClampNeg).toInt - u.toInt).toNat < nF → m_X9_usable_L4 nF r n u = (m_X9_usable r) → ∀ ls : Array Slot, lv_has ls 3 [(0, .ref a0), (1, .int n), (2, .int u)] → W p l e ({ frames := 1, cells := 0, slots := 0, locals := 22 } : Room) s m ([.ref a0] : List Value).toArray below meth c s.heap [] 0 0 (MQ below (vp_Si (fun v_ => v_ = (m_X9_usable r))) ([.ref a0] : List Value).toArray s 0 0 (fun _ => False)) (F0 m 4 ls []) := by
    intro nF
    induction nF with
    | zero => intro n u h0 hm; exact absurd hm (Nat.not_lt_zero _)
    | succ nF ih =>
      intro n u h0 hm hQ ls hl
      refine lv_iload_n hx hb dX9_usable_4 rfl (lv_at hl 2 rfl) ?_
      refine lv_aload_n hx hb dX9_usable_5 rfl (lv_at hl 0 rfl) ?_
      refine lv_iconst (v := (1 : Int32)) hx hb dX9_usable_6 (by decide) ?_
      refine va_iald hx hb hG.1 hP 0 0 (n := 383) (f := r) g_Ar_0 rfl (bd_of (by decide) (by decide)) dX9_usable_7 ?_
      refine lv_icmp_ge (tgt := 36) hx hb dX9_usable_8 (by decide) (fun c_1 => ?_) (fun c_1 => ?_)
      · skip
        refine lv_iload_n hx hb dX9_usable_36 rfl (lv_at hl 1 rfl) ?_
        exact ro_iret hx hb hr hlocks dX9_usable_37 (by rw [← hQ, m_X9_usable_L4, if_pos c_1])
      · skip
        refine lv_iload_n hx hb dX9_usable_11 rfl (lv_at hl 1 rfl) ?_
        refine lv_aload_n hx hb dX9_usable_12 rfl (lv_at hl 0 rfl) ?_
        refine lv_iload_n hx hb dX9_usable_13 rfl (lv_at hl 2 rfl) ?_
        refine lv_iconst (v := (3 : Int32)) hx hb dX9_usable_14 (by decide) ?_
        refine roS (wc := (wAr cy a0 r)) (As := [.ref a0, .int u, .int (3 : Int32)]) (rest := [.int n]) (c_X9_of l D cy a0 r u (3 : Int32) (iv_loop (M := 16) (h := 15) h0 c_1 ((rk_many hR).2) (by decide)) (iv_wide (l2 := 0) (h2 := 4) (iv_lit (v := 3) (by decide)) (by decide))) hCF gX9_usable_X9_of rfl hd_X9_of ⟨rfl, rfl, Nat.le_of_ble_eq_true rfl, Nat.le_of_ble_eq_true rfl⟩ hG hP rfl hl.1 rfl (Nat.le_of_ble_eq_true rfl) dX9_usable_15 ⟨Nat.le_refl _, Nat.le_refl _⟩ ?_
        refine lv_bipush (v := (7 : Int32)) hx hb dX9_usable_18 (by decide) ?_
        refine lv_icmp_ne (tgt := 27) hx hb dX9_usable_20 (by decide) (fun c_2 => ?_) (fun c_2 => ?_)
        · skip
          refine lv_iconst (v := (0 : Int32)) hx hb dX9_usable_27 (by decide) ?_
          refine lv_iadd hx hb dX9_usable_28 ?_
          refine lv_istore_n (lv' := [(1, .int (n + (0 : Int32))), (0, .ref a0), (2, .int u)]) hx hb dX9_usable_29 rfl hl (by decide) rfl (fun ls hl => ?_)
          refine lv_iinc (v := (u + (1 : Int32))) (lv' := [(2, .int (u + (1 : Int32))), (1, .int (n + (0 : Int32))), (0, .ref a0)]) hx hb dX9_usable_30 hl (k := 2) rfl rfl (by decide) rfl (fun ls hl => ?_)
          refine lv_goto (tgt := 4) hx hb dX9_usable_33 (by decide) ?_
          exact ih  (n + (0 : Int32)) (u + (1 : Int32)) (lp_up h0 c_1) (lp_dec h0 c_1 hm) (by rw [← hQ, m_X9_usable_L4, if_neg c_1, if_neg c_2]) ls (lv_sub hl [2, 1, 0] rfl)
        · skip
          refine lv_iconst (v := (1 : Int32)) hx hb dX9_usable_23 (by decide) ?_
          refine lv_goto (tgt := 28) hx hb dX9_usable_24 (by decide) ?_
          refine lv_iadd hx hb dX9_usable_28 ?_
          refine lv_istore_n (lv' := [(1, .int (n + (1 : Int32))), (0, .ref a0), (2, .int u)]) hx hb dX9_usable_29 rfl hl (by decide) rfl (fun ls hl => ?_)
          refine lv_iinc (v := (u + (1 : Int32))) (lv' := [(2, .int (u + (1 : Int32))), (1, .int (n + (1 : Int32))), (0, .ref a0)]) hx hb dX9_usable_30 hl (k := 2) rfl rfl (by decide) rfl (fun ls hl => ?_)
          refine lv_goto (tgt := 4) hx hb dX9_usable_33 (by decide) ?_
          exact ih  (n + (1 : Int32)) (u + (1 : Int32)) (lp_up h0 c_1) (lp_dec h0 c_1 hm) (by rw [← hQ, m_X9_usable_L4, if_neg c_1, if_pos c_2]) ls (lv_sub hl [2, 1, 0] rfl)
  refine lv_iconst (v := (0 : Int32)) hx hb dX9_usable_0 (by decide) ?_
  refine lv_istore_n (lv' := [(1, .int (0 : Int32)), (0, .ref a0)]) hx hb dX9_usable_1 rfl hl (by decide) rfl (fun ls hl => ?_)
  refine lv_iconst (v := (0 : Int32)) hx hb dX9_usable_2 (by decide) ?_
  refine lv_istore_n (lv' := [(2, .int (0 : Int32)), (1, .int (0 : Int32)), (0, .ref a0)]) hx hb dX9_usable_3 rfl hl (by decide) rfl (fun ls hl => ?_)
  exact L_4 100 (0 : Int32) (0 : Int32) (by decide) (lp_init (M := 16) (rk_many hR).2 (by decide)) (by rw [m_X9_usable]) ls (lv_sub hl [2, 1, 0] rfl)
def m_X9_coresOwed_L4 : Nat → (Nat → Int32) → Int32 → Int32 → Int32
  | 0, _, _, _ => 0
  | nF + 1, r, n, h => if (5 : Int32) ≤ h then n else m_X9_coresOwed_L4 nF r (n + (r (m_X9_coresAt h).toNatClampNeg)) (h + (1 : Int32))
def m_X9_coresOwed (r : (Nat → Int32)) : Int32 := m_X9_coresOwed_L4 100 r (0 : Int32) (0 : Int32)
theorem hd_X9_coresOwed : yX9_coresOwed.cls = RX9 ∧ yX9_coresOwed.cls ≠ "java/lang/invoke/MethodHandle" ∧ yX9_coresOwed.cls ≠ "java/lang/invoke/VarHandle" ∧ (parseMethodDescriptor yX9_coresOwed.desc).map (fun d => d.parameters.length) = some 1 := by decide +kernel
set_option maxHeartbeats 8000000 in
set_option maxRecDepth 20000 in
theorem c_X9_coresOwed (l : Launch) (D : va_G) (cy : Nat → ClassId) (a0 : Nat) (r : (Nat → Int32)) : RO l D cy yX9_coresOwed wsX9_coresOwed ({ frames := 1, cells := 0, slots := 0, locals := 20 } : Room) (wAr cy a0 r) [.ref a0] (m_X9_coresOwed r) := by
  refine RO.body (by decide) rfl (Nat.le_of_ble_eq_true rfl) ?_
  intro p e s m below meth c hx hb hml hr hts hown hlocks hP hG ls hl
  have hl : lv_has ls 3 [(0, .ref a0)] := hl
  have hCF : CallFix p m c cX9_coresOwed 3 s ([.ref a0] : List Value).toArray wsX9_coresOwed RX9 := ⟨hx, hb, hml, hown, hts⟩
  have L_4 : ∀ (nF : Nat) (n : Int32) (h : Int32), 0 ≤ h.toInt → ((5 : Int32).toInt - h.toInt).toNat < nF → m_X9_coresOwed_L4 nF r n h = (m_X9_coresOwed r) → ∀ ls : Array Slot, lv_has ls 3 [(0, .ref a0), (1, .int n), (2, .int h)] → W p l e ({ frames := 1, cells := 0, slots := 0, locals := 20 } : Room) s m ([.ref a0] : List Value).toArray below meth c s.heap [] 0 0 (MQ below (vp_Si (fun v_ => v_ = (m_X9_coresOwed r))) ([.ref a0] : List Value).toArray s 0 0 (fun _ => False)) (F0 m 4 ls []) := by
    intro nF
    induction nF with
    | zero => intro n h h0 hm; exact absurd hm (Nat.not_lt_zero _)
    | succ nF ih =>
      intro n h h0 hm hQ ls hl
      refine lv_iload_n hx hb dX9_coresOwed_4 rfl (lv_at hl 2 rfl) ?_
      refine lv_iconst (v := (5 : Int32)) hx hb dX9_coresOwed_5 (by decide) ?_
      refine lv_icmp_ge (tgt := 24) hx hb dX9_coresOwed_6 (by decide) (fun c_1 => ?_) (fun c_1 => ?_)
      · skip
        refine lv_iload_n hx hb dX9_coresOwed_24 rfl (lv_at hl 1 rfl) ?_
        exact ro_iret hx hb hr hlocks dX9_coresOwed_25 (by rw [← hQ, m_X9_coresOwed_L4, if_pos c_1])
      · skip
        refine lv_iload_n hx hb dX9_coresOwed_9 rfl (lv_at hl 1 rfl) ?_
        refine lv_aload_n hx hb dX9_coresOwed_10 rfl (lv_at hl 0 rfl) ?_
        refine lv_iload_n hx hb dX9_coresOwed_11 rfl (lv_at hl 2 rfl) ?_
        refine roS (wc := ([] : va_W)) (As := [.int h]) (rest := [.ref a0, .int n]) (c_X9_coresAt l D cy h) hCF gX9_coresOwed_X9_coresAt rfl hd_X9_coresAt ⟨rfl, rfl, Nat.le_of_ble_eq_true rfl, Nat.le_of_ble_eq_true rfl⟩ hG va_P_nil rfl hl.1 rfl (Nat.le_of_ble_eq_true rfl) dX9_coresOwed_12 ⟨Nat.le_refl _, Nat.le_refl _⟩ ?_
        refine va_iald hx hb hG.1 hP 0 0 (n := 383) (f := r) g_Ar_0 rfl (iv_in (iv_coresAt (iv_loop (M := 5) (h := 4) h0 c_1 ((by decide)) (by decide))) (by decide) (by decide)) dX9_coresOwed_15 ?_
        refine lv_iadd hx hb dX9_coresOwed_16 ?_
        refine lv_istore_n (lv' := [(1, .int (n + (r (m_X9_coresAt h).toNatClampNeg))), (0, .ref a0), (2, .int h)]) hx hb dX9_coresOwed_17 rfl hl (by decide) rfl (fun ls hl => ?_)
        refine lv_iinc (v := (h + (1 : Int32))) (lv' := [(2, .int (h + (1 : Int32))), (1, .int (n + (r (m_X9_coresAt h).toNatClampNeg))), (0, .ref a0)]) hx hb dX9_coresOwed_18 hl (k := 2) rfl rfl (by decide) rfl (fun ls hl => ?_)
        refine lv_goto (tgt := 4) hx hb dX9_coresOwed_21 (by decide) ?_
        exact ih  (n + (r (m_X9_coresAt h).toNatClampNeg)) (h + (1 : Int32)) (lp_up h0 c_1) (lp_dec h0 c_1 hm) (by rw [← hQ, m_X9_coresOwed_L4, if_neg c_1]) ls (lv_sub hl [2, 1, 0] rfl)
  refine lv_iconst (v := (0 : Int32)) hx hb dX9_coresOwed_0 (by decide) ?_
  refine lv_istore_n (lv' := [(1, .int (0 : Int32)), (0, .ref a0)]) hx hb dX9_coresOwed_1 rfl hl (by decide) rfl (fun ls hl => ?_)
  refine lv_iconst (v := (0 : Int32)) hx hb dX9_coresOwed_2 (by decide) ?_
  refine lv_istore_n (lv' := [(2, .int (0 : Int32)), (1, .int (0 : Int32)), (0, .ref a0)]) hx hb dX9_coresOwed_3 rfl hl (by decide) rfl (fun ls hl => ?_)
  exact L_4 100 (0 : Int32) (0 : Int32) (by decide) (lp_init (M := 5) (by decide) (by decide)) (by rw [m_X9_coresOwed]) ls (lv_sub hl [2, 1, 0] rfl)
def m_X9_isAt (r : (Nat → Int32)) (x1 : Int32) (x2 : Int32) (x3 : Int32) : Int32 := if (m_X9_of r x1 (2 : Int32)) = x2 then if (m_X9_of r x1 (0 : Int32)) = x3 then (1 : Int32) else (0 : Int32) else (0 : Int32)
theorem hd_X9_isAt : yX9_isAt.cls = RX9 ∧ yX9_isAt.cls ≠ "java/lang/invoke/MethodHandle" ∧ yX9_isAt.cls ≠ "java/lang/invoke/VarHandle" ∧ (parseMethodDescriptor yX9_isAt.desc).map (fun d => d.parameters.length) = some 4 := by decide +kernel
set_option maxHeartbeats 8000000 in
set_option maxRecDepth 20000 in
theorem c_X9_isAt (l : Launch) (D : va_G) (cy : Nat → ClassId) (a0 : Nat) (r : (Nat → Int32)) (x1 : Int32) (x2 : Int32) (x3 : Int32) (h_x1 : iv 0 15 x1) : RO l D cy yX9_isAt wsX9_isAt ({ frames := 1, cells := 0, slots := 0, locals := 22 } : Room) (wAr cy a0 r) [.ref a0, .int x1, .int x2, .int x3] (m_X9_isAt r x1 x2 x3) := by
  refine RO.body (by decide) rfl (Nat.le_of_ble_eq_true rfl) ?_
  intro p e s m below meth c hx hb hml hr hts hown hlocks hP hG ls hl
  have hl : lv_has ls 4 [(0, .ref a0), (1, .int x1), (2, .int x2), (3, .int x3)] := hl
  have hCF : CallFix p m c cX9_isAt 4 s ([.ref a0, .int x1, .int x2, .int x3] : List Value).toArray wsX9_isAt RX9 := ⟨hx, hb, hml, hown, hts⟩
  refine lv_aload_n hx hb dX9_isAt_0 rfl (lv_at hl 0 rfl) ?_
  refine lv_iload_n hx hb dX9_isAt_1 rfl (lv_at hl 1 rfl) ?_
  refine lv_iconst (v := (2 : Int32)) hx hb dX9_isAt_2 (by decide) ?_
  refine roS (wc := (wAr cy a0 r)) (As := [.ref a0, .int x1, .int (2 : Int32)]) (rest := []) (c_X9_of l D cy a0 r x1 (2 : Int32) h_x1 (iv_wide (l2 := 0) (h2 := 4) (iv_lit (v := 2) (by decide)) (by decide))) hCF gX9_isAt_X9_of rfl hd_X9_of ⟨rfl, rfl, Nat.le_of_ble_eq_true rfl, Nat.le_of_ble_eq_true rfl⟩ hG hP rfl hl.1 rfl (Nat.le_of_ble_eq_true rfl) dX9_isAt_3 ⟨Nat.le_refl _, Nat.le_refl _⟩ ?_
  refine lv_iload_n hx hb dX9_isAt_6 rfl (lv_at hl 2 rfl) ?_
  refine lv_icmp_ne (tgt := 24) hx hb dX9_isAt_7 (by decide) (fun c_1 => ?_) (fun c_1 => ?_)
  · skip
    refine lv_iconst (v := (0 : Int32)) hx hb dX9_isAt_24 (by decide) ?_
    exact ro_zret hx hb hr hlocks rfl dX9_isAt_25 (by rw [m_X9_isAt, if_neg c_1])
  · skip
    refine lv_aload_n hx hb dX9_isAt_10 rfl (lv_at hl 0 rfl) ?_
    refine lv_iload_n hx hb dX9_isAt_11 rfl (lv_at hl 1 rfl) ?_
    refine lv_iconst (v := (0 : Int32)) hx hb dX9_isAt_12 (by decide) ?_
    refine roS (wc := (wAr cy a0 r)) (As := [.ref a0, .int x1, .int (0 : Int32)]) (rest := []) (c_X9_of l D cy a0 r x1 (0 : Int32) h_x1 (iv_wide (l2 := 0) (h2 := 4) (iv_lit (v := 0) (by decide)) (by decide))) hCF gX9_isAt_X9_of rfl hd_X9_of ⟨rfl, rfl, Nat.le_of_ble_eq_true rfl, Nat.le_of_ble_eq_true rfl⟩ hG hP rfl hl.1 rfl (Nat.le_of_ble_eq_true rfl) dX9_isAt_13 ⟨Nat.le_refl _, Nat.le_refl _⟩ ?_
    refine lv_iload_n hx hb dX9_isAt_16 rfl (lv_at hl 3 rfl) ?_
    refine lv_icmp_ne (tgt := 24) hx hb dX9_isAt_17 (by decide) (fun c_2 => ?_) (fun c_2 => ?_)
    · skip
      refine lv_iconst (v := (0 : Int32)) hx hb dX9_isAt_24 (by decide) ?_
      exact ro_zret hx hb hr hlocks rfl dX9_isAt_25 (by rw [m_X9_isAt, if_pos c_1, if_neg c_2])
    · skip
      refine lv_iconst (v := (1 : Int32)) hx hb dX9_isAt_20 (by decide) ?_
      refine lv_goto (tgt := 25) hx hb dX9_isAt_21 (by decide) ?_
      exact ro_zret hx hb hr hlocks rfl dX9_isAt_25 (by rw [m_X9_isAt, if_pos c_1, if_pos c_2])
