def m_X7_usableOnes_L4 : Nat → UnT → Int32 → Int32 → Int32
  | 0, _, _, _ => 0
  | nF + 1, un, n, u => if (uN un) ≤ u then n else if (m_X7_isUsable un u) = (0 : Int32) then m_X7_usableOnes_L4 nF un (n + (0 : Int32)) (u + (1 : Int32)) else m_X7_usableOnes_L4 nF un (n + (1 : Int32)) (u + (1 : Int32))
def m_X7_usableOnes (un : UnT) : Int32 := m_X7_usableOnes_L4 100 un (0 : Int32) (0 : Int32)
theorem hd_X7_usableOnes : yX7_usableOnes.cls = RX7 ∧ yX7_usableOnes.cls ≠ "java/lang/invoke/MethodHandle" ∧ yX7_usableOnes.cls ≠ "java/lang/invoke/VarHandle" ∧ (parseMethodDescriptor yX7_usableOnes.desc).map (fun d => d.parameters.length) = some 0 := by decide +kernel
set_option maxHeartbeats 8000000 in
set_option maxRecDepth 20000 in
theorem c_X7_usableOnes (l : Launch) (D : va_G) (cy : Nat → ClassId) (a0 a1 a2 a3 a4 a5 : Nat) (un : UnT) (hOK : uOK un) : RO l D cy yX7_usableOnes wsX7_usableOnes ({ frames := 2, cells := 0, slots := 0, locals := 42 } : Room) (wUn cy a0 a1 a2 a3 a4 a5 un) [.ref a0] (m_X7_usableOnes un) := by
  refine RO.body (by decide) rfl (Nat.le_of_ble_eq_true rfl) ?_
  intro p e s m below meth c hx hb hml hr hts hown hlocks hP hG ls hl
  have hl : lv_has ls 3 [(0, .ref a0)] := hl
  have hCF : CallFix p m c cX7_usableOnes 3 s ([.ref a0] : List Value).toArray wsX7_usableOnes RX7 := ⟨hx, hb, hml, hown, hts⟩
  have in_X7 : ∀ w ∈ u_ws RX7 TX7 6, w ∈ wsX7_usableOnes := fun _ h => List.mem_cons_of_mem _ (List.mem_append_right _ h)
  have k_0 := hts (Cond.fieldLink RX7 33 "SparePool$Units" "count" "I") (List.mem_of_getElem? (i := 1) rfl)
  have L_4 : ∀ (nF : Nat) (n : Int32) (u : Int32), 0 ≤ u.toInt → ((uN un).toInt - u.toInt).toNat < nF → m_X7_usableOnes_L4 nF un n u = (m_X7_usableOnes un) → ∀ ls : Array Slot, lv_has ls 3 [(0, .ref a0), (1, .int n), (2, .int u)] → W p l e ({ frames := 2, cells := 0, slots := 0, locals := 42 } : Room) s m ([.ref a0] : List Value).toArray below meth c s.heap [] 0 0 (MQ below (vp_Si (fun v_ => v_ = (m_X7_usableOnes un))) ([.ref a0] : List Value).toArray s 0 0 (fun _ => False)) (F0 m 4 ls []) := by
    intro nF
    induction nF with
    | zero => intro n u h0 hm; exact absurd hm (Nat.not_lt_zero _)
    | succ nF ih =>
      intro n u h0 hm hQ ls hl
      refine lv_iload_n hx hb dX7_usableOnes_4 rfl (lv_at hl 2 rfl) ?_
      refine lv_aload_n hx hb dX7_usableOnes_5 rfl (lv_at hl 0 rfl) ?_
      refine va_get (D := D) (ci := 5) (v := .int (uN un)) (C := RX7) (T := TX7) (N := 6) hx hb hts in_X7 hown hG.1 hP 0 g_Un_0 rfl 5 (by decide) k_0 (fun _ h9 => h9) rfl dX7_usableOnes_6 ?_
      refine lv_icmp_ge (tgt := 34) hx hb dX7_usableOnes_9 (by decide) (fun c_1 => ?_) (fun c_1 => ?_)
      · skip
        refine lv_iload_n hx hb dX7_usableOnes_34 rfl (lv_at hl 1 rfl) ?_
        exact ro_iret hx hb hr hlocks dX7_usableOnes_35 (by rw [← hQ, m_X7_usableOnes_L4, if_pos c_1])
      · skip
        refine lv_iload_n hx hb dX7_usableOnes_12 rfl (lv_at hl 1 rfl) ?_
        refine lv_aload_n hx hb dX7_usableOnes_13 rfl (lv_at hl 0 rfl) ?_
        refine lv_iload_n hx hb dX7_usableOnes_14 rfl (lv_at hl 2 rfl) ?_
        refine roV (wc := (wUn cy a0 a1 a2 a3 a4 a5 un)) (As := [.int u]) (rest := [.int n]) (c_X7_isUsable l D cy a0 a1 a2 a3 a4 a5 un u hOK) hCF gX7_usableOnes_X7_isUsable rfl hd_X7_isUsable ⟨rfl, rfl, Nat.le_of_ble_eq_true rfl, Nat.le_of_ble_eq_true rfl⟩ hG hP (ci := 5) rfl rfl g_Un_0 rfl hl.1 rfl (Nat.le_of_ble_eq_true rfl) dX7_usableOnes_15 ⟨Nat.le_refl _, Nat.le_refl _⟩ ?_
        refine lv_if_eq (tgt := 25) hx hb dX7_usableOnes_18 (by decide) (fun c_2 => ?_) (fun c_2 => ?_)
        · skip
          refine lv_iconst (v := (0 : Int32)) hx hb dX7_usableOnes_25 (by decide) ?_
          refine lv_iadd hx hb dX7_usableOnes_26 ?_
          refine lv_istore_n (lv' := [(1, .int (n + (0 : Int32))), (0, .ref a0), (2, .int u)]) hx hb dX7_usableOnes_27 rfl hl (by decide) rfl (fun ls hl => ?_)
          refine lv_iinc (v := (u + (1 : Int32))) (lv' := [(2, .int (u + (1 : Int32))), (1, .int (n + (0 : Int32))), (0, .ref a0)]) hx hb dX7_usableOnes_28 hl (k := 2) rfl rfl (by decide) rfl (fun ls hl => ?_)
          refine lv_goto (tgt := 4) hx hb dX7_usableOnes_31 (by decide) ?_
          exact ih  (n + (0 : Int32)) (u + (1 : Int32)) (lp_up h0 c_1) (lp_dec h0 c_1 hm) (by rw [← hQ, m_X7_usableOnes_L4, if_neg c_1, if_pos c_2]) ls (lv_sub hl [2, 1, 0] rfl)
        · skip
          refine lv_iconst (v := (1 : Int32)) hx hb dX7_usableOnes_21 (by decide) ?_
          refine lv_goto (tgt := 26) hx hb dX7_usableOnes_22 (by decide) ?_
          refine lv_iadd hx hb dX7_usableOnes_26 ?_
          refine lv_istore_n (lv' := [(1, .int (n + (1 : Int32))), (0, .ref a0), (2, .int u)]) hx hb dX7_usableOnes_27 rfl hl (by decide) rfl (fun ls hl => ?_)
          refine lv_iinc (v := (u + (1 : Int32))) (lv' := [(2, .int (u + (1 : Int32))), (1, .int (n + (1 : Int32))), (0, .ref a0)]) hx hb dX7_usableOnes_28 hl (k := 2) rfl rfl (by decide) rfl (fun ls hl => ?_)
          refine lv_goto (tgt := 4) hx hb dX7_usableOnes_31 (by decide) ?_
          exact ih  (n + (1 : Int32)) (u + (1 : Int32)) (lp_up h0 c_1) (lp_dec h0 c_1 hm) (by rw [← hQ, m_X7_usableOnes_L4, if_neg c_1, if_neg c_2]) ls (lv_sub hl [2, 1, 0] rfl)
  refine lv_iconst (v := (0 : Int32)) hx hb dX7_usableOnes_0 (by decide) ?_
  refine lv_istore_n (lv' := [(1, .int (0 : Int32)), (0, .ref a0)]) hx hb dX7_usableOnes_1 rfl hl (by decide) rfl (fun ls hl => ?_)
  refine lv_iconst (v := (0 : Int32)) hx hb dX7_usableOnes_2 (by decide) ?_
  refine lv_istore_n (lv' := [(2, .int (0 : Int32)), (1, .int (0 : Int32)), (0, .ref a0)]) hx hb dX7_usableOnes_3 rfl hl (by decide) rfl (fun ls hl => ?_)
  exact L_4 100 (0 : Int32) (0 : Int32) (by decide) (lp_init (M := 16) hOK.2 (by decide)) (by rw [m_X7_usableOnes]) ls (lv_sub hl [2, 1, 0] rfl)
def m_X7_onLoan_L4 : Nat → UnT → Int32 → Int32 → Int32
  | 0, _, _, _ => 0
  | nF + 1, un, n, u => if (uN un) ≤ u then n else if (m_X7_isFree un u) = (0 : Int32) then m_X7_onLoan_L4 nF un (n + (1 : Int32)) (u + (1 : Int32)) else m_X7_onLoan_L4 nF un (n + (0 : Int32)) (u + (1 : Int32))
def m_X7_onLoan (un : UnT) : Int32 := m_X7_onLoan_L4 100 un (0 : Int32) (0 : Int32)
theorem hd_X7_onLoan : yX7_onLoan.cls = RX7 ∧ yX7_onLoan.cls ≠ "java/lang/invoke/MethodHandle" ∧ yX7_onLoan.cls ≠ "java/lang/invoke/VarHandle" ∧ (parseMethodDescriptor yX7_onLoan.desc).map (fun d => d.parameters.length) = some 0 := by decide +kernel
set_option maxHeartbeats 8000000 in
set_option maxRecDepth 20000 in
theorem c_X7_onLoan (l : Launch) (D : va_G) (cy : Nat → ClassId) (a0 a1 a2 a3 a4 a5 : Nat) (un : UnT) (hOK : uOK un) : RO l D cy yX7_onLoan wsX7_onLoan ({ frames := 2, cells := 0, slots := 0, locals := 42 } : Room) (wUn cy a0 a1 a2 a3 a4 a5 un) [.ref a0] (m_X7_onLoan un) := by
  refine RO.body (by decide) rfl (Nat.le_of_ble_eq_true rfl) ?_
  intro p e s m below meth c hx hb hml hr hts hown hlocks hP hG ls hl
  have hl : lv_has ls 3 [(0, .ref a0)] := hl
  have hCF : CallFix p m c cX7_onLoan 3 s ([.ref a0] : List Value).toArray wsX7_onLoan RX7 := ⟨hx, hb, hml, hown, hts⟩
  have in_X7 : ∀ w ∈ u_ws RX7 TX7 6, w ∈ wsX7_onLoan := fun _ h => List.mem_cons_of_mem _ (List.mem_append_right _ h)
  have k_0 := hts (Cond.fieldLink RX7 33 "SparePool$Units" "count" "I") (List.mem_of_getElem? (i := 1) rfl)
  have L_4 : ∀ (nF : Nat) (n : Int32) (u : Int32), 0 ≤ u.toInt → ((uN un).toInt - u.toInt).toNat < nF → m_X7_onLoan_L4 nF un n u = (m_X7_onLoan un) → ∀ ls : Array Slot, lv_has ls 3 [(0, .ref a0), (1, .int n), (2, .int u)] → W p l e ({ frames := 2, cells := 0, slots := 0, locals := 42 } : Room) s m ([.ref a0] : List Value).toArray below meth c s.heap [] 0 0 (MQ below (vp_Si (fun v_ => v_ = (m_X7_onLoan un))) ([.ref a0] : List Value).toArray s 0 0 (fun _ => False)) (F0 m 4 ls []) := by
    intro nF
    induction nF with
    | zero => intro n u h0 hm; exact absurd hm (Nat.not_lt_zero _)
    | succ nF ih =>
      intro n u h0 hm hQ ls hl
      refine lv_iload_n hx hb dX7_onLoan_4 rfl (lv_at hl 2 rfl) ?_
      refine lv_aload_n hx hb dX7_onLoan_5 rfl (lv_at hl 0 rfl) ?_
      refine va_get (D := D) (ci := 5) (v := .int (uN un)) (C := RX7) (T := TX7) (N := 6) hx hb hts in_X7 hown hG.1 hP 0 g_Un_0 rfl 5 (by decide) k_0 (fun _ h9 => h9) rfl dX7_onLoan_6 ?_
      refine lv_icmp_ge (tgt := 34) hx hb dX7_onLoan_9 (by decide) (fun c_1 => ?_) (fun c_1 => ?_)
      · skip
        refine lv_iload_n hx hb dX7_onLoan_34 rfl (lv_at hl 1 rfl) ?_
        exact ro_iret hx hb hr hlocks dX7_onLoan_35 (by rw [← hQ, m_X7_onLoan_L4, if_pos c_1])
      · skip
        refine lv_iload_n hx hb dX7_onLoan_12 rfl (lv_at hl 1 rfl) ?_
        refine lv_aload_n hx hb dX7_onLoan_13 rfl (lv_at hl 0 rfl) ?_
        refine lv_iload_n hx hb dX7_onLoan_14 rfl (lv_at hl 2 rfl) ?_
        refine roV (wc := (wUn cy a0 a1 a2 a3 a4 a5 un)) (As := [.int u]) (rest := [.int n]) (c_X7_isFree l D cy a0 a1 a2 a3 a4 a5 un u hOK) hCF gX7_onLoan_X7_isFree rfl hd_X7_isFree ⟨rfl, rfl, Nat.le_of_ble_eq_true rfl, Nat.le_of_ble_eq_true rfl⟩ hG hP (ci := 5) rfl rfl g_Un_0 rfl hl.1 rfl (Nat.le_of_ble_eq_true rfl) dX7_onLoan_15 ⟨Nat.le_refl _, Nat.le_refl _⟩ ?_
        refine lv_if_eq (tgt := 25) hx hb dX7_onLoan_18 (by decide) (fun c_2 => ?_) (fun c_2 => ?_)
        · skip
          refine lv_iconst (v := (1 : Int32)) hx hb dX7_onLoan_25 (by decide) ?_
          refine lv_iadd hx hb dX7_onLoan_26 ?_
          refine lv_istore_n (lv' := [(1, .int (n + (1 : Int32))), (0, .ref a0), (2, .int u)]) hx hb dX7_onLoan_27 rfl hl (by decide) rfl (fun ls hl => ?_)
          refine lv_iinc (v := (u + (1 : Int32))) (lv' := [(2, .int (u + (1 : Int32))), (1, .int (n + (1 : Int32))), (0, .ref a0)]) hx hb dX7_onLoan_28 hl (k := 2) rfl rfl (by decide) rfl (fun ls hl => ?_)
          refine lv_goto (tgt := 4) hx hb dX7_onLoan_31 (by decide) ?_
          exact ih  (n + (1 : Int32)) (u + (1 : Int32)) (lp_up h0 c_1) (lp_dec h0 c_1 hm) (by rw [← hQ, m_X7_onLoan_L4, if_neg c_1, if_pos c_2]) ls (lv_sub hl [2, 1, 0] rfl)
        · skip
          refine lv_iconst (v := (0 : Int32)) hx hb dX7_onLoan_21 (by decide) ?_
          refine lv_goto (tgt := 26) hx hb dX7_onLoan_22 (by decide) ?_
          refine lv_iadd hx hb dX7_onLoan_26 ?_
          refine lv_istore_n (lv' := [(1, .int (n + (0 : Int32))), (0, .ref a0), (2, .int u)]) hx hb dX7_onLoan_27 rfl hl (by decide) rfl (fun ls hl => ?_)
          refine lv_iinc (v := (u + (1 : Int32))) (lv' := [(2, .int (u + (1 : Int32))), (1, .int (n + (0 : Int32))), (0, .ref a0)]) hx hb dX7_onLoan_28 hl (k := 2) rfl rfl (by decide) rfl (fun ls hl => ?_)
          refine lv_goto (tgt := 4) hx hb dX7_onLoan_31 (by decide) ?_
          exact ih  (n + (0 : Int32)) (u + (1 : Int32)) (lp_up h0 c_1) (lp_dec h0 c_1 hm) (by rw [← hQ, m_X7_onLoan_L4, if_neg c_1, if_neg c_2]) ls (lv_sub hl [2, 1, 0] rfl)
  refine lv_iconst (v := (0 : Int32)) hx hb dX7_onLoan_0 (by decide) ?_
  refine lv_istore_n (lv' := [(1, .int (0 : Int32)), (0, .ref a0)]) hx hb dX7_onLoan_1 rfl hl (by decide) rfl (fun ls hl => ?_)
  refine lv_iconst (v := (0 : Int32)) hx hb dX7_onLoan_2 (by decide) ?_
  refine lv_istore_n (lv' := [(2, .int (0 : Int32)), (1, .int (0 : Int32)), (0, .ref a0)]) hx hb dX7_onLoan_3 rfl hl (by decide) rfl (fun ls hl => ?_)
  exact L_4 100 (0 : Int32) (0 : Int32) (by decide) (lp_init (M := 16) hOK.2 (by decide)) (by rw [m_X7_onLoan]) ls (lv_sub hl [2, 1, 0] rfl)
def m_X7_dueBefore_L4 : Nat → UnT → Int32 → Int32 → Int32 → Int32
  | 0, _, _, _, _ => 0
  | nF + 1, un, x1, n, u => if (uN un) ≤ u then n else if (m_X7_isFree un u) = (0 : Int32) then if x1 ≤ ((uD un) u.toNatClampNeg) then m_X7_dueBefore_L4 nF un x1 (n + (0 : Int32)) (u + (1 : Int32)) else m_X7_dueBefore_L4 nF un x1 (n + (1 : Int32)) (u + (1 : Int32)) else m_X7_dueBefore_L4 nF un x1 (n + (0 : Int32)) (u + (1 : Int32))
def m_X7_dueBefore (un : UnT) (x1 : Int32) : Int32 := m_X7_dueBefore_L4 100 un x1 (0 : Int32) (0 : Int32)
theorem hd_X7_dueBefore : yX7_dueBefore.cls = RX7 ∧ yX7_dueBefore.cls ≠ "java/lang/invoke/MethodHandle" ∧ yX7_dueBefore.cls ≠ "java/lang/invoke/VarHandle" ∧ (parseMethodDescriptor yX7_dueBefore.desc).map (fun d => d.parameters.length) = some 1 := by decide +kernel
set_option maxHeartbeats 8000000 in
set_option maxRecDepth 20000 in
theorem c_X7_dueBefore (l : Launch) (D : va_G) (cy : Nat → ClassId) (a0 a1 a2 a3 a4 a5 : Nat) (un : UnT) (x1 : Int32) (hOK : uOK un) : RO l D cy yX7_dueBefore wsX7_dueBefore ({ frames := 2, cells := 0, slots := 0, locals := 42 } : Room) (wUn cy a0 a1 a2 a3 a4 a5 un) [.ref a0, .int x1] (m_X7_dueBefore un x1) := by
  refine RO.body (by decide) rfl (Nat.le_of_ble_eq_true rfl) ?_
  intro p e s m below meth c hx hb hml hr hts hown hlocks hP hG ls hl
  have hl : lv_has ls 4 [(0, .ref a0), (1, .int x1)] := hl
  have hCF : CallFix p m c cX7_dueBefore 4 s ([.ref a0, .int x1] : List Value).toArray wsX7_dueBefore RX7 := ⟨hx, hb, hml, hown, hts⟩
  have in_X7 : ∀ w ∈ u_ws RX7 TX7 6, w ∈ wsX7_dueBefore := fun _ h => List.mem_cons_of_mem _ (List.mem_append_right _ h)
  have k_0 := hts (Cond.fieldLink RX7 33 "SparePool$Units" "count" "I") (List.mem_of_getElem? (i := 1) rfl)
  have k_1 := hts (Cond.fieldLink RX7 24 "SparePool$Units" "due" "[I") (List.mem_of_getElem? (i := 2) rfl)
  have L_4 : ∀ (nF : Nat) (n : Int32) (u : Int32), 0 ≤ u.toInt → ((uN un).toInt - u.toInt).toNat < nF → m_X7_dueBefore_L4 nF un x1 n u = (m_X7_dueBefore un x1) → ∀ ls : Array Slot, lv_has ls 4 [(0, .ref a0), (1, .int x1), (2, .int n), (3, .int u)] → W p l e ({ frames := 2, cells := 0, slots := 0, locals := 42 } : Room) s m ([.ref a0, .int x1] : List Value).toArray below meth c s.heap [] 0 0 (MQ below (vp_Si (fun v_ => v_ = (m_X7_dueBefore un x1))) ([.ref a0, .int x1] : List Value).toArray s 0 0 (fun _ => False)) (F0 m 4 ls []) := by
    intro nF
    induction nF with
    | zero => intro n u h0 hm; exact absurd hm (Nat.not_lt_zero _)
    | succ nF ih =>
      intro n u h0 hm hQ ls hl
      refine lv_iload_n hx hb dX7_dueBefore_4 rfl (lv_at hl 3 rfl) ?_
      refine lv_aload_n hx hb dX7_dueBefore_5 rfl (lv_at hl 0 rfl) ?_
      refine va_get (D := D) (ci := 5) (v := .int (uN un)) (C := RX7) (T := TX7) (N := 6) hx hb hts in_X7 hown hG.1 hP 0 g_Un_0 rfl 5 (by decide) k_0 (fun _ h9 => h9) rfl dX7_dueBefore_6 ?_
      refine lv_icmp_ge (tgt := 44) hx hb dX7_dueBefore_9 (by decide) (fun c_1 => ?_) (fun c_1 => ?_)
      · skip
        refine lv_iload_n hx hb dX7_dueBefore_44 rfl (lv_at hl 2 rfl) ?_
        exact ro_iret hx hb hr hlocks dX7_dueBefore_45 (by rw [← hQ, m_X7_dueBefore_L4, if_pos c_1])
      · skip
        refine lv_iload_n hx hb dX7_dueBefore_12 rfl (lv_at hl 2 rfl) ?_
        refine lv_aload_n hx hb dX7_dueBefore_13 rfl (lv_at hl 0 rfl) ?_
        refine lv_iload_n hx hb dX7_dueBefore_14 rfl (lv_at hl 3 rfl) ?_
        refine roV (wc := (wUn cy a0 a1 a2 a3 a4 a5 un)) (As := [.int u]) (rest := [.int n]) (c_X7_isFree l D cy a0 a1 a2 a3 a4 a5 un u hOK) hCF gX7_dueBefore_X7_isFree rfl hd_X7_isFree ⟨rfl, rfl, Nat.le_of_ble_eq_true rfl, Nat.le_of_ble_eq_true rfl⟩ hG hP (ci := 5) rfl rfl g_Un_0 rfl hl.1 rfl (Nat.le_of_ble_eq_true rfl) dX7_dueBefore_15 ⟨Nat.le_refl _, Nat.le_refl _⟩ ?_
        refine lv_if_ne (tgt := 35) hx hb dX7_dueBefore_18 (by decide) (fun c_2 => ?_) (fun c_2 => ?_)
        · skip
          refine lv_iconst (v := (0 : Int32)) hx hb dX7_dueBefore_35 (by decide) ?_
          refine lv_iadd hx hb dX7_dueBefore_36 ?_
          refine lv_istore_n (lv' := [(2, .int (n + (0 : Int32))), (0, .ref a0), (1, .int x1), (3, .int u)]) hx hb dX7_dueBefore_37 rfl hl (by decide) rfl (fun ls hl => ?_)
          refine lv_iinc (v := (u + (1 : Int32))) (lv' := [(3, .int (u + (1 : Int32))), (2, .int (n + (0 : Int32))), (0, .ref a0), (1, .int x1)]) hx hb dX7_dueBefore_38 hl (k := 3) rfl rfl (by decide) rfl (fun ls hl => ?_)
          refine lv_goto (tgt := 4) hx hb dX7_dueBefore_41 (by decide) ?_
          exact ih  (n + (0 : Int32)) (u + (1 : Int32)) (lp_up h0 c_1) (lp_dec h0 c_1 hm) (by rw [← hQ, m_X7_dueBefore_L4, if_neg c_1, if_neg c_2]) ls (lv_sub hl [2, 3, 1, 0] rfl)
        · skip
          refine lv_aload_n hx hb dX7_dueBefore_21 rfl (lv_at hl 0 rfl) ?_
          refine va_get (D := D) (ci := 5) (v := .ref a5) (C := RX7) (T := TX7) (N := 6) hx hb hts in_X7 hown hG.1 hP 0 g_Un_0 rfl 4 (by decide) k_1 (fun _ h9 => h9) rfl dX7_dueBefore_22 ?_
          refine lv_iload_n hx hb dX7_dueBefore_25 rfl (lv_at hl 3 rfl) ?_
          refine va_iald hx hb hG.1 hP 5 0 (n := 16) (f := (uD un)) g_Un_5 rfl (bd_loop h0 c_1 (hOK.2)) dX7_dueBefore_26 ?_
          refine lv_iload_n hx hb dX7_dueBefore_27 rfl (lv_at hl 1 rfl) ?_
          refine lv_icmp_ge (tgt := 35) hx hb dX7_dueBefore_28 (by decide) (fun c_3 => ?_) (fun c_3 => ?_)
          · skip
            refine lv_iconst (v := (0 : Int32)) hx hb dX7_dueBefore_35 (by decide) ?_
            refine lv_iadd hx hb dX7_dueBefore_36 ?_
            refine lv_istore_n (lv' := [(2, .int (n + (0 : Int32))), (0, .ref a0), (1, .int x1), (3, .int u)]) hx hb dX7_dueBefore_37 rfl hl (by decide) rfl (fun ls hl => ?_)
            refine lv_iinc (v := (u + (1 : Int32))) (lv' := [(3, .int (u + (1 : Int32))), (2, .int (n + (0 : Int32))), (0, .ref a0), (1, .int x1)]) hx hb dX7_dueBefore_38 hl (k := 3) rfl rfl (by decide) rfl (fun ls hl => ?_)
            refine lv_goto (tgt := 4) hx hb dX7_dueBefore_41 (by decide) ?_
            exact ih  (n + (0 : Int32)) (u + (1 : Int32)) (lp_up h0 c_1) (lp_dec h0 c_1 hm) (by rw [← hQ, m_X7_dueBefore_L4, if_neg c_1, if_pos c_2, if_pos c_3]) ls (lv_sub hl [2, 3, 1, 0] rfl)
          · skip
            refine lv_iconst (v := (1 : Int32)) hx hb dX7_dueBefore_31 (by decide) ?_
            refine lv_goto (tgt := 36) hx hb dX7_dueBefore_32 (by decide) ?_
            refine lv_iadd hx hb dX7_dueBefore_36 ?_
            refine lv_istore_n (lv' := [(2, .int (n + (1 : Int32))), (0, .ref a0), (1, .int x1), (3, .int u)]) hx hb dX7_dueBefore_37 rfl hl (by decide) rfl (fun ls hl => ?_)
            refine lv_iinc (v := (u + (1 : Int32))) (lv' := [(3, .int (u + (1 : Int32))), (2, .int (n + (1 : Int32))), (0, .ref a0), (1, .int x1)]) hx hb dX7_dueBefore_38 hl (k := 3) rfl rfl (by decide) rfl (fun ls hl => ?_)
            refine lv_goto (tgt := 4) hx hb dX7_dueBefore_41 (by decide) ?_
            exact ih  (n + (1 : Int32)) (u + (1 : Int32)) (lp_up h0 c_1) (lp_dec h0 c_1 hm) (by rw [← hQ, m_X7_dueBefore_L4, if_neg c_1, if_pos c_2, if_neg c_3]) ls (lv_sub hl [2, 3, 1, 0] rfl)
  refine lv_iconst (v := (0 : Int32)) hx hb dX7_dueBefore_0 (by decide) ?_
  refine lv_istore_n (lv' := [(2, .int (0 : Int32)), (0, .ref a0), (1, .int x1)]) hx hb dX7_dueBefore_1 rfl hl (by decide) rfl (fun ls hl => ?_)
  refine lv_iconst (v := (0 : Int32)) hx hb dX7_dueBefore_2 (by decide) ?_
  refine lv_istore_n (lv' := [(3, .int (0 : Int32)), (2, .int (0 : Int32)), (0, .ref a0), (1, .int x1)]) hx hb dX7_dueBefore_3 rfl hl (by decide) rfl (fun ls hl => ?_)
  exact L_4 100 (0 : Int32) (0 : Int32) (by decide) (lp_init (M := 16) hOK.2 (by decide)) (by rw [m_X7_dueBefore]) ls (lv_sub hl [2, 3, 1, 0] rfl)
def m_X7_ownedBy_L4 : Nat → UnT → Int32 → Int32 → Int32 → Int32
  | 0, _, _, _, _ => 0
  | nF + 1, un, x1, n, u => if (uN un) ≤ u then n else if ((uO un) u.toNatClampNeg) = x1 then m_X7_ownedBy_L4 nF un x1 (n + (1 : Int32)) (u + (1 : Int32)) else m_X7_ownedBy_L4 nF un x1 (n + (0 : Int32)) (u + (1 : Int32))
def m_X7_ownedBy (un : UnT) (x1 : Int32) : Int32 := m_X7_ownedBy_L4 100 un x1 (0 : Int32) (0 : Int32)
theorem hd_X7_ownedBy : yX7_ownedBy.cls = RX7 ∧ yX7_ownedBy.cls ≠ "java/lang/invoke/MethodHandle" ∧ yX7_ownedBy.cls ≠ "java/lang/invoke/VarHandle" ∧ (parseMethodDescriptor yX7_ownedBy.desc).map (fun d => d.parameters.length) = some 1 := by decide +kernel
set_option maxHeartbeats 8000000 in
set_option maxRecDepth 20000 in
theorem c_X7_ownedBy (l : Launch) (D : va_G) (cy : Nat → ClassId) (a0 a1 a2 a3 a4 a5 : Nat) (un : UnT) (x1 : Int32) (hOK : uOK un) : RO l D cy yX7_ownedBy wsX7_ownedBy ({ frames := 0, cells := 0, slots := 0, locals := 0 } : Room) (wUn cy a0 a1 a2 a3 a4 a5 un) [.ref a0, .int x1] (m_X7_ownedBy un x1) := by
  refine RO.body (by decide) rfl (Nat.le_of_ble_eq_true rfl) ?_
  intro p e s m below meth c hx hb hml hr hts hown hlocks hP hG ls hl
  have hl : lv_has ls 4 [(0, .ref a0), (1, .int x1)] := hl
  have hCF : CallFix p m c cX7_ownedBy 4 s ([.ref a0, .int x1] : List Value).toArray wsX7_ownedBy RX7 := ⟨hx, hb, hml, hown, hts⟩
  have in_X7 : ∀ w ∈ u_ws RX7 TX7 6, w ∈ wsX7_ownedBy := fun _ h => List.mem_cons_of_mem _ (List.mem_append_right _ h)
  have k_0 := hts (Cond.fieldLink RX7 33 "SparePool$Units" "count" "I") (List.mem_of_getElem? (i := 1) rfl)
  have k_1 := hts (Cond.fieldLink RX7 15 "SparePool$Units" "owner" "[I") (List.mem_of_getElem? (i := 2) rfl)
  have L_4 : ∀ (nF : Nat) (n : Int32) (u : Int32), 0 ≤ u.toInt → ((uN un).toInt - u.toInt).toNat < nF → m_X7_ownedBy_L4 nF un x1 n u = (m_X7_ownedBy un x1) → ∀ ls : Array Slot, lv_has ls 4 [(0, .ref a0), (1, .int x1), (2, .int n), (3, .int u)] → W p l e ({ frames := 0, cells := 0, slots := 0, locals := 0 } : Room) s m ([.ref a0, .int x1] : List Value).toArray below meth c s.heap [] 0 0 (MQ below (vp_Si (fun v_ => v_ = (m_X7_ownedBy un x1))) ([.ref a0, .int x1] : List Value).toArray s 0 0 (fun _ => False)) (F0 m 4 ls []) := by
    intro nF
    induction nF with
    | zero => intro n u h0 hm; exact absurd hm (Nat.not_lt_zero _)
    | succ nF ih =>
      intro n u h0 hm hQ ls hl
      refine lv_iload_n hx hb dX7_ownedBy_4 rfl (lv_at hl 3 rfl) ?_
      refine lv_aload_n hx hb dX7_ownedBy_5 rfl (lv_at hl 0 rfl) ?_
      refine va_get (D := D) (ci := 5) (v := .int (uN un)) (C := RX7) (T := TX7) (N := 6) hx hb hts in_X7 hown hG.1 hP 0 g_Un_0 rfl 5 (by decide) k_0 (fun _ h9 => h9) rfl dX7_ownedBy_6 ?_
      refine lv_icmp_ge (tgt := 36) hx hb dX7_ownedBy_9 (by decide) (fun c_1 => ?_) (fun c_1 => ?_)
      · skip
        refine lv_iload_n hx hb dX7_ownedBy_36 rfl (lv_at hl 2 rfl) ?_
        exact ro_iret hx hb hr hlocks dX7_ownedBy_37 (by rw [← hQ, m_X7_ownedBy_L4, if_pos c_1])
      · skip
        refine lv_iload_n hx hb dX7_ownedBy_12 rfl (lv_at hl 2 rfl) ?_
        refine lv_aload_n hx hb dX7_ownedBy_13 rfl (lv_at hl 0 rfl) ?_
        refine va_get (D := D) (ci := 5) (v := .ref a2) (C := RX7) (T := TX7) (N := 6) hx hb hts in_X7 hown hG.1 hP 0 g_Un_0 rfl 1 (by decide) k_1 (fun _ h9 => h9) rfl dX7_ownedBy_14 ?_
        refine lv_iload_n hx hb dX7_ownedBy_17 rfl (lv_at hl 3 rfl) ?_
        refine va_iald hx hb hG.1 hP 2 0 (n := 16) (f := (uO un)) g_Un_2 rfl (bd_loop h0 c_1 (hOK.2)) dX7_ownedBy_18 ?_
        refine lv_iload_n hx hb dX7_ownedBy_19 rfl (lv_at hl 1 rfl) ?_
        refine lv_icmp_ne (tgt := 27) hx hb dX7_ownedBy_20 (by decide) (fun c_2 => ?_) (fun c_2 => ?_)
        · skip
          refine lv_iconst (v := (0 : Int32)) hx hb dX7_ownedBy_27 (by decide) ?_
          refine lv_iadd hx hb dX7_ownedBy_28 ?_
          refine lv_istore_n (lv' := [(2, .int (n + (0 : Int32))), (0, .ref a0), (1, .int x1), (3, .int u)]) hx hb dX7_ownedBy_29 rfl hl (by decide) rfl (fun ls hl => ?_)
          refine lv_iinc (v := (u + (1 : Int32))) (lv' := [(3, .int (u + (1 : Int32))), (2, .int (n + (0 : Int32))), (0, .ref a0), (1, .int x1)]) hx hb dX7_ownedBy_30 hl (k := 3) rfl rfl (by decide) rfl (fun ls hl => ?_)
          refine lv_goto (tgt := 4) hx hb dX7_ownedBy_33 (by decide) ?_
          exact ih  (n + (0 : Int32)) (u + (1 : Int32)) (lp_up h0 c_1) (lp_dec h0 c_1 hm) (by rw [← hQ, m_X7_ownedBy_L4, if_neg c_1, if_neg c_2]) ls (lv_sub hl [2, 3, 1, 0] rfl)
        · skip
          refine lv_iconst (v := (1 : Int32)) hx hb dX7_ownedBy_23 (by decide) ?_
          refine lv_goto (tgt := 28) hx hb dX7_ownedBy_24 (by decide) ?_
          refine lv_iadd hx hb dX7_ownedBy_28 ?_
          refine lv_istore_n (lv' := [(2, .int (n + (1 : Int32))), (0, .ref a0), (1, .int x1), (3, .int u)]) hx hb dX7_ownedBy_29 rfl hl (by decide) rfl (fun ls hl => ?_)
          refine lv_iinc (v := (u + (1 : Int32))) (lv' := [(3, .int (u + (1 : Int32))), (2, .int (n + (1 : Int32))), (0, .ref a0), (1, .int x1)]) hx hb dX7_ownedBy_30 hl (k := 3) rfl rfl (by decide) rfl (fun ls hl => ?_)
          refine lv_goto (tgt := 4) hx hb dX7_ownedBy_33 (by decide) ?_
          exact ih  (n + (1 : Int32)) (u + (1 : Int32)) (lp_up h0 c_1) (lp_dec h0 c_1 hm) (by rw [← hQ, m_X7_ownedBy_L4, if_neg c_1, if_pos c_2]) ls (lv_sub hl [2, 3, 1, 0] rfl)
  refine lv_iconst (v := (0 : Int32)) hx hb dX7_ownedBy_0 (by decide) ?_
  refine lv_istore_n (lv' := [(2, .int (0 : Int32)), (0, .ref a0), (1, .int x1)]) hx hb dX7_ownedBy_1 rfl hl (by decide) rfl (fun ls hl => ?_)
  refine lv_iconst (v := (0 : Int32)) hx hb dX7_ownedBy_2 (by decide) ?_
  refine lv_istore_n (lv' := [(3, .int (0 : Int32)), (2, .int (0 : Int32)), (0, .ref a0), (1, .int x1)]) hx hb dX7_ownedBy_3 rfl hl (by decide) rfl (fun ls hl => ?_)
  exact L_4 100 (0 : Int32) (0 : Int32) (by decide) (lp_init (M := 16) hOK.2 (by decide)) (by rw [m_X7_ownedBy]) ls (lv_sub hl [2, 3, 1, 0] rfl)
def m_X7_placedAt_L4 : Nat → UnT → Int32 → Int32 → Int32 → Int32
  | 0, _, _, _, _ => 0
  | nF + 1, un, x1, n, u => if (uN un) ≤ u then n else if ((uP un) u.toNatClampNeg) = x1 then m_X7_placedAt_L4 nF un x1 (n + (1 : Int32)) (u + (1 : Int32)) else m_X7_placedAt_L4 nF un x1 (n + (0 : Int32)) (u + (1 : Int32))
def m_X7_placedAt (un : UnT) (x1 : Int32) : Int32 := m_X7_placedAt_L4 100 un x1 (0 : Int32) (0 : Int32)
theorem hd_X7_placedAt : yX7_placedAt.cls = RX7 ∧ yX7_placedAt.cls ≠ "java/lang/invoke/MethodHandle" ∧ yX7_placedAt.cls ≠ "java/lang/invoke/VarHandle" ∧ (parseMethodDescriptor yX7_placedAt.desc).map (fun d => d.parameters.length) = some 1 := by decide +kernel
set_option maxHeartbeats 8000000 in
set_option maxRecDepth 20000 in
theorem c_X7_placedAt (l : Launch) (D : va_G) (cy : Nat → ClassId) (a0 a1 a2 a3 a4 a5 : Nat) (un : UnT) (x1 : Int32) (hOK : uOK un) : RO l D cy yX7_placedAt wsX7_placedAt ({ frames := 0, cells := 0, slots := 0, locals := 0 } : Room) (wUn cy a0 a1 a2 a3 a4 a5 un) [.ref a0, .int x1] (m_X7_placedAt un x1) := by
  refine RO.body (by decide) rfl (Nat.le_of_ble_eq_true rfl) ?_
  intro p e s m below meth c hx hb hml hr hts hown hlocks hP hG ls hl
  have hl : lv_has ls 4 [(0, .ref a0), (1, .int x1)] := hl
  have hCF : CallFix p m c cX7_placedAt 4 s ([.ref a0, .int x1] : List Value).toArray wsX7_placedAt RX7 := ⟨hx, hb, hml, hown, hts⟩
  have in_X7 : ∀ w ∈ u_ws RX7 TX7 6, w ∈ wsX7_placedAt := fun _ h => List.mem_cons_of_mem _ (List.mem_append_right _ h)
  have k_0 := hts (Cond.fieldLink RX7 33 "SparePool$Units" "count" "I") (List.mem_of_getElem? (i := 1) rfl)
  have k_1 := hts (Cond.fieldLink RX7 18 "SparePool$Units" "place" "[I") (List.mem_of_getElem? (i := 2) rfl)
  have L_4 : ∀ (nF : Nat) (n : Int32) (u : Int32), 0 ≤ u.toInt → ((uN un).toInt - u.toInt).toNat < nF → m_X7_placedAt_L4 nF un x1 n u = (m_X7_placedAt un x1) → ∀ ls : Array Slot, lv_has ls 4 [(0, .ref a0), (1, .int x1), (2, .int n), (3, .int u)] → W p l e ({ frames := 0, cells := 0, slots := 0, locals := 0 } : Room) s m ([.ref a0, .int x1] : List Value).toArray below meth c s.heap [] 0 0 (MQ below (vp_Si (fun v_ => v_ = (m_X7_placedAt un x1))) ([.ref a0, .int x1] : List Value).toArray s 0 0 (fun _ => False)) (F0 m 4 ls []) := by
    intro nF
    induction nF with
    | zero => intro n u h0 hm; exact absurd hm (Nat.not_lt_zero _)
    | succ nF ih =>
      intro n u h0 hm hQ ls hl
      refine lv_iload_n hx hb dX7_placedAt_4 rfl (lv_at hl 3 rfl) ?_
      refine lv_aload_n hx hb dX7_placedAt_5 rfl (lv_at hl 0 rfl) ?_
      refine va_get (D := D) (ci := 5) (v := .int (uN un)) (C := RX7) (T := TX7) (N := 6) hx hb hts in_X7 hown hG.1 hP 0 g_Un_0 rfl 5 (by decide) k_0 (fun _ h9 => h9) rfl dX7_placedAt_6 ?_
      refine lv_icmp_ge (tgt := 36) hx hb dX7_placedAt_9 (by decide) (fun c_1 => ?_) (fun c_1 => ?_)
      · skip
        refine lv_iload_n hx hb dX7_placedAt_36 rfl (lv_at hl 2 rfl) ?_
        exact ro_iret hx hb hr hlocks dX7_placedAt_37 (by rw [← hQ, m_X7_placedAt_L4, if_pos c_1])
      · skip
        refine lv_iload_n hx hb dX7_placedAt_12 rfl (lv_at hl 2 rfl) ?_
        refine lv_aload_n hx hb dX7_placedAt_13 rfl (lv_at hl 0 rfl) ?_
        refine va_get (D := D) (ci := 5) (v := .ref a3) (C := RX7) (T := TX7) (N := 6) hx hb hts in_X7 hown hG.1 hP 0 g_Un_0 rfl 2 (by decide) k_1 (fun _ h9 => h9) rfl dX7_placedAt_14 ?_
        refine lv_iload_n hx hb dX7_placedAt_17 rfl (lv_at hl 3 rfl) ?_
        refine va_iald hx hb hG.1 hP 3 0 (n := 16) (f := (uP un)) g_Un_3 rfl (bd_loop h0 c_1 (hOK.2)) dX7_placedAt_18 ?_
        refine lv_iload_n hx hb dX7_placedAt_19 rfl (lv_at hl 1 rfl) ?_
        refine lv_icmp_ne (tgt := 27) hx hb dX7_placedAt_20 (by decide) (fun c_2 => ?_) (fun c_2 => ?_)
        · skip
          refine lv_iconst (v := (0 : Int32)) hx hb dX7_placedAt_27 (by decide) ?_
          refine lv_iadd hx hb dX7_placedAt_28 ?_
          refine lv_istore_n (lv' := [(2, .int (n + (0 : Int32))), (0, .ref a0), (1, .int x1), (3, .int u)]) hx hb dX7_placedAt_29 rfl hl (by decide) rfl (fun ls hl => ?_)
          refine lv_iinc (v := (u + (1 : Int32))) (lv' := [(3, .int (u + (1 : Int32))), (2, .int (n + (0 : Int32))), (0, .ref a0), (1, .int x1)]) hx hb dX7_placedAt_30 hl (k := 3) rfl rfl (by decide) rfl (fun ls hl => ?_)
          refine lv_goto (tgt := 4) hx hb dX7_placedAt_33 (by decide) ?_
          exact ih  (n + (0 : Int32)) (u + (1 : Int32)) (lp_up h0 c_1) (lp_dec h0 c_1 hm) (by rw [← hQ, m_X7_placedAt_L4, if_neg c_1, if_neg c_2]) ls (lv_sub hl [2, 3, 1, 0] rfl)
        · skip
          refine lv_iconst (v := (1 : Int32)) hx hb dX7_placedAt_23 (by decide) ?_
          refine lv_goto (tgt := 28) hx hb dX7_placedAt_24 (by decide) ?_
          refine lv_iadd hx hb dX7_placedAt_28 ?_
          refine lv_istore_n (lv' := [(2, .int (n + (1 : Int32))), (0, .ref a0), (1, .int x1), (3, .int u)]) hx hb dX7_placedAt_29 rfl hl (by decide) rfl (fun ls hl => ?_)
          refine lv_iinc (v := (u + (1 : Int32))) (lv' := [(3, .int (u + (1 : Int32))), (2, .int (n + (1 : Int32))), (0, .ref a0), (1, .int x1)]) hx hb dX7_placedAt_30 hl (k := 3) rfl rfl (by decide) rfl (fun ls hl => ?_)
          refine lv_goto (tgt := 4) hx hb dX7_placedAt_33 (by decide) ?_
          exact ih  (n + (1 : Int32)) (u + (1 : Int32)) (lp_up h0 c_1) (lp_dec h0 c_1 hm) (by rw [← hQ, m_X7_placedAt_L4, if_neg c_1, if_pos c_2]) ls (lv_sub hl [2, 3, 1, 0] rfl)
  refine lv_iconst (v := (0 : Int32)) hx hb dX7_placedAt_0 (by decide) ?_
  refine lv_istore_n (lv' := [(2, .int (0 : Int32)), (0, .ref a0), (1, .int x1)]) hx hb dX7_placedAt_1 rfl hl (by decide) rfl (fun ls hl => ?_)
  refine lv_iconst (v := (0 : Int32)) hx hb dX7_placedAt_2 (by decide) ?_
  refine lv_istore_n (lv' := [(3, .int (0 : Int32)), (2, .int (0 : Int32)), (0, .ref a0), (1, .int x1)]) hx hb dX7_placedAt_3 rfl hl (by decide) rfl (fun ls hl => ?_)
  exact L_4 100 (0 : Int32) (0 : Int32) (by decide) (lp_init (M := 16) hOK.2 (by decide)) (by rw [m_X7_placedAt]) ls (lv_sub hl [2, 3, 1, 0] rfl)
def m_X7_borrowedBy_L4 : Nat → UnT → Int32 → Int32 → Int32 → Int32
  | 0, _, _, _, _ => 0
  | nF + 1, un, x1, n, u => if (uN un) ≤ u then n else if ((uP un) u.toNatClampNeg) = x1 then if ((uO un) u.toNatClampNeg) = x1 then m_X7_borrowedBy_L4 nF un x1 (n + (0 : Int32)) (u + (1 : Int32)) else m_X7_borrowedBy_L4 nF un x1 (n + (1 : Int32)) (u + (1 : Int32)) else m_X7_borrowedBy_L4 nF un x1 (n + (0 : Int32)) (u + (1 : Int32))
def m_X7_borrowedBy (un : UnT) (x1 : Int32) : Int32 := m_X7_borrowedBy_L4 100 un x1 (0 : Int32) (0 : Int32)
theorem hd_X7_borrowedBy : yX7_borrowedBy.cls = RX7 ∧ yX7_borrowedBy.cls ≠ "java/lang/invoke/MethodHandle" ∧ yX7_borrowedBy.cls ≠ "java/lang/invoke/VarHandle" ∧ (parseMethodDescriptor yX7_borrowedBy.desc).map (fun d => d.parameters.length) = some 1 := by decide +kernel
set_option maxHeartbeats 8000000 in
set_option maxRecDepth 20000 in
theorem c_X7_borrowedBy (l : Launch) (D : va_G) (cy : Nat → ClassId) (a0 a1 a2 a3 a4 a5 : Nat) (un : UnT) (x1 : Int32) (hOK : uOK un) : RO l D cy yX7_borrowedBy wsX7_borrowedBy ({ frames := 0, cells := 0, slots := 0, locals := 0 } : Room) (wUn cy a0 a1 a2 a3 a4 a5 un) [.ref a0, .int x1] (m_X7_borrowedBy un x1) := by
  refine RO.body (by decide) rfl (Nat.le_of_ble_eq_true rfl) ?_
  intro p e s m below meth c hx hb hml hr hts hown hlocks hP hG ls hl
  have hl : lv_has ls 4 [(0, .ref a0), (1, .int x1)] := hl
  have hCF : CallFix p m c cX7_borrowedBy 4 s ([.ref a0, .int x1] : List Value).toArray wsX7_borrowedBy RX7 := ⟨hx, hb, hml, hown, hts⟩
  have in_X7 : ∀ w ∈ u_ws RX7 TX7 6, w ∈ wsX7_borrowedBy := fun _ h => List.mem_cons_of_mem _ (List.mem_append_right _ h)
  have k_0 := hts (Cond.fieldLink RX7 33 "SparePool$Units" "count" "I") (List.mem_of_getElem? (i := 1) rfl)
  have k_1 := hts (Cond.fieldLink RX7 18 "SparePool$Units" "place" "[I") (List.mem_of_getElem? (i := 2) rfl)
  have k_2 := hts (Cond.fieldLink RX7 15 "SparePool$Units" "owner" "[I") (List.mem_of_getElem? (i := 3) rfl)
  have L_4 : ∀ (nF : Nat) (n : Int32) (u : Int32), 0 ≤ u.toInt → ((uN un).toInt - u.toInt).toNat < nF → m_X7_borrowedBy_L4 nF un x1 n u = (m_X7_borrowedBy un x1) → ∀ ls : Array Slot, lv_has ls 4 [(0, .ref a0), (1, .int x1), (2, .int n), (3, .int u)] → W p l e ({ frames := 0, cells := 0, slots := 0, locals := 0 } : Room) s m ([.ref a0, .int x1] : List Value).toArray below meth c s.heap [] 0 0 (MQ below (vp_Si (fun v_ => v_ = (m_X7_borrowedBy un x1))) ([.ref a0, .int x1] : List Value).toArray s 0 0 (fun _ => False)) (F0 m 4 ls []) := by
    intro nF
    induction nF with
    | zero => intro n u h0 hm; exact absurd hm (Nat.not_lt_zero _)
    | succ nF ih =>
      intro n u h0 hm hQ ls hl
      refine lv_iload_n hx hb dX7_borrowedBy_4 rfl (lv_at hl 3 rfl) ?_
      refine lv_aload_n hx hb dX7_borrowedBy_5 rfl (lv_at hl 0 rfl) ?_
      refine va_get (D := D) (ci := 5) (v := .int (uN un)) (C := RX7) (T := TX7) (N := 6) hx hb hts in_X7 hown hG.1 hP 0 g_Un_0 rfl 5 (by decide) k_0 (fun _ h9 => h9) rfl dX7_borrowedBy_6 ?_
      refine lv_icmp_ge (tgt := 46) hx hb dX7_borrowedBy_9 (by decide) (fun c_1 => ?_) (fun c_1 => ?_)
      · skip
        refine lv_iload_n hx hb dX7_borrowedBy_46 rfl (lv_at hl 2 rfl) ?_
        exact ro_iret hx hb hr hlocks dX7_borrowedBy_47 (by rw [← hQ, m_X7_borrowedBy_L4, if_pos c_1])
      · skip
        refine lv_iload_n hx hb dX7_borrowedBy_12 rfl (lv_at hl 2 rfl) ?_
        refine lv_aload_n hx hb dX7_borrowedBy_13 rfl (lv_at hl 0 rfl) ?_
        refine va_get (D := D) (ci := 5) (v := .ref a3) (C := RX7) (T := TX7) (N := 6) hx hb hts in_X7 hown hG.1 hP 0 g_Un_0 rfl 2 (by decide) k_1 (fun _ h9 => h9) rfl dX7_borrowedBy_14 ?_
        refine lv_iload_n hx hb dX7_borrowedBy_17 rfl (lv_at hl 3 rfl) ?_
        refine va_iald hx hb hG.1 hP 3 0 (n := 16) (f := (uP un)) g_Un_3 rfl (bd_loop h0 c_1 (hOK.2)) dX7_borrowedBy_18 ?_
        refine lv_iload_n hx hb dX7_borrowedBy_19 rfl (lv_at hl 1 rfl) ?_
        refine lv_icmp_ne (tgt := 37) hx hb dX7_borrowedBy_20 (by decide) (fun c_2 => ?_) (fun c_2 => ?_)
        · skip
          refine lv_iconst (v := (0 : Int32)) hx hb dX7_borrowedBy_37 (by decide) ?_
          refine lv_iadd hx hb dX7_borrowedBy_38 ?_
          refine lv_istore_n (lv' := [(2, .int (n + (0 : Int32))), (0, .ref a0), (1, .int x1), (3, .int u)]) hx hb dX7_borrowedBy_39 rfl hl (by decide) rfl (fun ls hl => ?_)
          refine lv_iinc (v := (u + (1 : Int32))) (lv' := [(3, .int (u + (1 : Int32))), (2, .int (n + (0 : Int32))), (0, .ref a0), (1, .int x1)]) hx hb dX7_borrowedBy_40 hl (k := 3) rfl rfl (by decide) rfl (fun ls hl => ?_)
          refine lv_goto (tgt := 4) hx hb dX7_borrowedBy_43 (by decide) ?_
          exact ih  (n + (0 : Int32)) (u + (1 : Int32)) (lp_up h0 c_1) (lp_dec h0 c_1 hm) (by rw [← hQ, m_X7_borrowedBy_L4, if_neg c_1, if_neg c_2]) ls (lv_sub hl [2, 3, 1, 0] rfl)
        · skip
          refine lv_aload_n hx hb dX7_borrowedBy_23 rfl (lv_at hl 0 rfl) ?_
          refine va_get (D := D) (ci := 5) (v := .ref a2) (C := RX7) (T := TX7) (N := 6) hx hb hts in_X7 hown hG.1 hP 0 g_Un_0 rfl 1 (by decide) k_2 (fun _ h9 => h9) rfl dX7_borrowedBy_24 ?_
          refine lv_iload_n hx hb dX7_borrowedBy_27 rfl (lv_at hl 3 rfl) ?_
          refine va_iald hx hb hG.1 hP 2 0 (n := 16) (f := (uO un)) g_Un_2 rfl (bd_loop h0 c_1 (hOK.2)) dX7_borrowedBy_28 ?_
          refine lv_iload_n hx hb dX7_borrowedBy_29 rfl (lv_at hl 1 rfl) ?_
          refine lv_icmp_eq (tgt := 37) hx hb dX7_borrowedBy_30 (by decide) (fun c_3 => ?_) (fun c_3 => ?_)
          · skip
            refine lv_iconst (v := (0 : Int32)) hx hb dX7_borrowedBy_37 (by decide) ?_
            refine lv_iadd hx hb dX7_borrowedBy_38 ?_
            refine lv_istore_n (lv' := [(2, .int (n + (0 : Int32))), (0, .ref a0), (1, .int x1), (3, .int u)]) hx hb dX7_borrowedBy_39 rfl hl (by decide) rfl (fun ls hl => ?_)
            refine lv_iinc (v := (u + (1 : Int32))) (lv' := [(3, .int (u + (1 : Int32))), (2, .int (n + (0 : Int32))), (0, .ref a0), (1, .int x1)]) hx hb dX7_borrowedBy_40 hl (k := 3) rfl rfl (by decide) rfl (fun ls hl => ?_)
            refine lv_goto (tgt := 4) hx hb dX7_borrowedBy_43 (by decide) ?_
            exact ih  (n + (0 : Int32)) (u + (1 : Int32)) (lp_up h0 c_1) (lp_dec h0 c_1 hm) (by rw [← hQ, m_X7_borrowedBy_L4, if_neg c_1, if_pos c_2, if_pos c_3]) ls (lv_sub hl [2, 3, 1, 0] rfl)
          · skip
            refine lv_iconst (v := (1 : Int32)) hx hb dX7_borrowedBy_33 (by decide) ?_
            refine lv_goto (tgt := 38) hx hb dX7_borrowedBy_34 (by decide) ?_
            refine lv_iadd hx hb dX7_borrowedBy_38 ?_
            refine lv_istore_n (lv' := [(2, .int (n + (1 : Int32))), (0, .ref a0), (1, .int x1), (3, .int u)]) hx hb dX7_borrowedBy_39 rfl hl (by decide) rfl (fun ls hl => ?_)
            refine lv_iinc (v := (u + (1 : Int32))) (lv' := [(3, .int (u + (1 : Int32))), (2, .int (n + (1 : Int32))), (0, .ref a0), (1, .int x1)]) hx hb dX7_borrowedBy_40 hl (k := 3) rfl rfl (by decide) rfl (fun ls hl => ?_)
            refine lv_goto (tgt := 4) hx hb dX7_borrowedBy_43 (by decide) ?_
            exact ih  (n + (1 : Int32)) (u + (1 : Int32)) (lp_up h0 c_1) (lp_dec h0 c_1 hm) (by rw [← hQ, m_X7_borrowedBy_L4, if_neg c_1, if_pos c_2, if_neg c_3]) ls (lv_sub hl [2, 3, 1, 0] rfl)
  refine lv_iconst (v := (0 : Int32)) hx hb dX7_borrowedBy_0 (by decide) ?_
  refine lv_istore_n (lv' := [(2, .int (0 : Int32)), (0, .ref a0), (1, .int x1)]) hx hb dX7_borrowedBy_1 rfl hl (by decide) rfl (fun ls hl => ?_)
  refine lv_iconst (v := (0 : Int32)) hx hb dX7_borrowedBy_2 (by decide) ?_
  refine lv_istore_n (lv' := [(3, .int (0 : Int32)), (2, .int (0 : Int32)), (0, .ref a0), (1, .int x1)]) hx hb dX7_borrowedBy_3 rfl hl (by decide) rfl (fun ls hl => ?_)
  exact L_4 100 (0 : Int32) (0 : Int32) (by decide) (lp_init (M := 16) hOK.2 (by decide)) (by rw [m_X7_borrowedBy]) ls (lv_sub hl [2, 3, 1, 0] rfl)
def m_X7_dueFirst_L4 : Nat → UnT → Int32 → Int32 → Int32
  | 0, _, _, _ => 0
  | nF + 1, un, f, u => if (uN un) ≤ u then f else if (m_X7_isFree un u) = (0 : Int32) then if f = (-1 : Int32) then m_X7_dueFirst_L4 nF un u (u + (1 : Int32)) else if ((uD un) f.toNatClampNeg) ≤ ((uD un) u.toNatClampNeg) then m_X7_dueFirst_L4 nF un f (u + (1 : Int32)) else m_X7_dueFirst_L4 nF un u (u + (1 : Int32)) else m_X7_dueFirst_L4 nF un f (u + (1 : Int32))
def m_X7_dueFirst (un : UnT) : Int32 := m_X7_dueFirst_L4 100 un (-1 : Int32) (0 : Int32)
theorem hd_X7_dueFirst : yX7_dueFirst.cls = RX7 ∧ yX7_dueFirst.cls ≠ "java/lang/invoke/MethodHandle" ∧ yX7_dueFirst.cls ≠ "java/lang/invoke/VarHandle" ∧ (parseMethodDescriptor yX7_dueFirst.desc).map (fun d => d.parameters.length) = some 0 := by decide +kernel
set_option maxHeartbeats 8000000 in
set_option maxRecDepth 20000 in
theorem c_X7_dueFirst (l : Launch) (D : va_G) (cy : Nat → ClassId) (a0 a1 a2 a3 a4 a5 : Nat) (un : UnT) (hOK : uOK un) : RO l D cy yX7_dueFirst wsX7_dueFirst ({ frames := 2, cells := 0, slots := 0, locals := 42 } : Room) (wUn cy a0 a1 a2 a3 a4 a5 un) [.ref a0] (m_X7_dueFirst un) := by
  refine RO.body (by decide) rfl (Nat.le_of_ble_eq_true rfl) ?_
  intro p e s m below meth c hx hb hml hr hts hown hlocks hP hG ls hl
  have hl : lv_has ls 3 [(0, .ref a0)] := hl
  have hCF : CallFix p m c cX7_dueFirst 3 s ([.ref a0] : List Value).toArray wsX7_dueFirst RX7 := ⟨hx, hb, hml, hown, hts⟩
  have in_X7 : ∀ w ∈ u_ws RX7 TX7 6, w ∈ wsX7_dueFirst := fun _ h => List.mem_cons_of_mem _ (List.mem_append_right _ h)
  have k_0 := hts (Cond.fieldLink RX7 33 "SparePool$Units" "count" "I") (List.mem_of_getElem? (i := 1) rfl)
  have k_1 := hts (Cond.fieldLink RX7 24 "SparePool$Units" "due" "[I") (List.mem_of_getElem? (i := 2) rfl)
  have L_4 : ∀ (nF : Nat) (f : Int32) (u : Int32), 0 ≤ u.toInt → f = (-1 : Int32) ∨ vp_in f 16 → ((uN un).toInt - u.toInt).toNat < nF → m_X7_dueFirst_L4 nF un f u = (m_X7_dueFirst un) → ∀ ls : Array Slot, lv_has ls 3 [(0, .ref a0), (1, .int f), (2, .int u)] → W p l e ({ frames := 2, cells := 0, slots := 0, locals := 42 } : Room) s m ([.ref a0] : List Value).toArray below meth c s.heap [] 0 0 (MQ below (vp_Si (fun v_ => v_ = (m_X7_dueFirst un))) ([.ref a0] : List Value).toArray s 0 0 (fun _ => False)) (F0 m 4 ls []) := by
    intro nF
    induction nF with
    | zero => intro f u h0 hf hm; exact absurd hm (Nat.not_lt_zero _)
    | succ nF ih =>
      intro f u h0 hf hm hQ ls hl
      refine lv_iload_n hx hb dX7_dueFirst_4 rfl (lv_at hl 2 rfl) ?_
      refine lv_aload_n hx hb dX7_dueFirst_5 rfl (lv_at hl 0 rfl) ?_
      refine va_get (D := D) (ci := 5) (v := .int (uN un)) (C := RX7) (T := TX7) (N := 6) hx hb hts in_X7 hown hG.1 hP 0 g_Un_0 rfl 5 (by decide) k_0 (fun _ h9 => h9) rfl dX7_dueFirst_6 ?_
      refine lv_icmp_ge (tgt := 48) hx hb dX7_dueFirst_9 (by decide) (fun c_1 => ?_) (fun c_1 => ?_)
      · skip
        refine lv_iload_n hx hb dX7_dueFirst_48 rfl (lv_at hl 1 rfl) ?_
        exact ro_iret hx hb hr hlocks dX7_dueFirst_49 (by rw [← hQ, m_X7_dueFirst_L4, if_pos c_1])
      · skip
        refine lv_aload_n hx hb dX7_dueFirst_12 rfl (lv_at hl 0 rfl) ?_
        refine lv_iload_n hx hb dX7_dueFirst_13 rfl (lv_at hl 2 rfl) ?_
        refine roV (wc := (wUn cy a0 a1 a2 a3 a4 a5 un)) (As := [.int u]) (rest := []) (c_X7_isFree l D cy a0 a1 a2 a3 a4 a5 un u hOK) hCF gX7_dueFirst_X7_isFree rfl hd_X7_isFree ⟨rfl, rfl, Nat.le_of_ble_eq_true rfl, Nat.le_of_ble_eq_true rfl⟩ hG hP (ci := 5) rfl rfl g_Un_0 rfl hl.1 rfl (Nat.le_of_ble_eq_true rfl) dX7_dueFirst_14 ⟨Nat.le_refl _, Nat.le_refl _⟩ ?_
        refine lv_if_ne (tgt := 42) hx hb dX7_dueFirst_17 (by decide) (fun c_2 => ?_) (fun c_2 => ?_)
        · skip
          refine lv_iinc (v := (u + (1 : Int32))) (lv' := [(2, .int (u + (1 : Int32))), (0, .ref a0), (1, .int f)]) hx hb dX7_dueFirst_42 hl (k := 2) rfl rfl (by decide) rfl (fun ls hl => ?_)
          refine lv_goto (tgt := 4) hx hb dX7_dueFirst_45 (by decide) ?_
          exact ih  f (u + (1 : Int32)) (lp_up h0 c_1) hf (lp_dec h0 c_1 hm) (by rw [← hQ, m_X7_dueFirst_L4, if_neg c_1, if_neg c_2]) ls (lv_sub hl [1, 2, 0] rfl)
        · skip
          refine lv_iload_n hx hb dX7_dueFirst_20 rfl (lv_at hl 1 rfl) ?_
          refine lv_iconst (v := (-1 : Int32)) hx hb dX7_dueFirst_21 (by decide) ?_
          refine lv_icmp_eq (tgt := 40) hx hb dX7_dueFirst_22 (by decide) (fun c_3 => ?_) (fun c_3 => ?_)
          · skip
            refine lv_iload_n hx hb dX7_dueFirst_40 rfl (lv_at hl 2 rfl) ?_
            refine lv_istore_n (lv' := [(1, .int u), (0, .ref a0), (2, .int u)]) hx hb dX7_dueFirst_41 rfl hl (by decide) rfl (fun ls hl => ?_)
            refine lv_iinc (v := (u + (1 : Int32))) (lv' := [(2, .int (u + (1 : Int32))), (1, .int u), (0, .ref a0)]) hx hb dX7_dueFirst_42 hl (k := 2) rfl rfl (by decide) rfl (fun ls hl => ?_)
            refine lv_goto (tgt := 4) hx hb dX7_dueFirst_45 (by decide) ?_
            exact ih  u (u + (1 : Int32)) (lp_up h0 c_1) (Or.inr (bd_loop h0 c_1 (hOK.2))) (lp_dec h0 c_1 hm) (by rw [← hQ, m_X7_dueFirst_L4, if_neg c_1, if_pos c_2, if_pos c_3]) ls (lv_sub hl [2, 1, 0] rfl)
          · skip
            refine lv_aload_n hx hb dX7_dueFirst_25 rfl (lv_at hl 0 rfl) ?_
            refine va_get (D := D) (ci := 5) (v := .ref a5) (C := RX7) (T := TX7) (N := 6) hx hb hts in_X7 hown hG.1 hP 0 g_Un_0 rfl 4 (by decide) k_1 (fun _ h9 => h9) rfl dX7_dueFirst_26 ?_
            refine lv_iload_n hx hb dX7_dueFirst_29 rfl (lv_at hl 2 rfl) ?_
            refine va_iald hx hb hG.1 hP 5 0 (n := 16) (f := (uD un)) g_Un_5 rfl (bd_loop h0 c_1 (hOK.2)) dX7_dueFirst_30 ?_
            refine lv_aload_n hx hb dX7_dueFirst_31 rfl (lv_at hl 0 rfl) ?_
            refine va_get (D := D) (ci := 5) (v := .ref a5) (C := RX7) (T := TX7) (N := 6) hx hb hts in_X7 hown hG.1 hP 0 g_Un_0 rfl 4 (by decide) k_1 (fun _ h9 => h9) rfl dX7_dueFirst_32 ?_
            refine lv_iload_n hx hb dX7_dueFirst_35 rfl (lv_at hl 1 rfl) ?_
            refine va_iald hx hb hG.1 hP 5 0 (n := 16) (f := (uD un)) g_Un_5 rfl (hf.resolve_left c_3) dX7_dueFirst_36 ?_
            refine lv_icmp_ge (tgt := 42) hx hb dX7_dueFirst_37 (by decide) (fun c_4 => ?_) (fun c_4 => ?_)
            · skip
              refine lv_iinc (v := (u + (1 : Int32))) (lv' := [(2, .int (u + (1 : Int32))), (0, .ref a0), (1, .int f)]) hx hb dX7_dueFirst_42 hl (k := 2) rfl rfl (by decide) rfl (fun ls hl => ?_)
              refine lv_goto (tgt := 4) hx hb dX7_dueFirst_45 (by decide) ?_
              exact ih  f (u + (1 : Int32)) (lp_up h0 c_1) hf (lp_dec h0 c_1 hm) (by rw [← hQ, m_X7_dueFirst_L4, if_neg c_1, if_pos c_2, if_neg c_3, if_pos c_4]) ls (lv_sub hl [1, 2, 0] rfl)
            · skip
              refine lv_iload_n hx hb dX7_dueFirst_40 rfl (lv_at hl 2 rfl) ?_
              refine lv_istore_n (lv' := [(1, .int u), (0, .ref a0), (2, .int u)]) hx hb dX7_dueFirst_41 rfl hl (by decide) rfl (fun ls hl => ?_)
              refine lv_iinc (v := (u + (1 : Int32))) (lv' := [(2, .int (u + (1 : Int32))), (1, .int u), (0, .ref a0)]) hx hb dX7_dueFirst_42 hl (k := 2) rfl rfl (by decide) rfl (fun ls hl => ?_)
              refine lv_goto (tgt := 4) hx hb dX7_dueFirst_45 (by decide) ?_
              exact ih  u (u + (1 : Int32)) (lp_up h0 c_1) (Or.inr (bd_loop h0 c_1 (hOK.2))) (lp_dec h0 c_1 hm) (by rw [← hQ, m_X7_dueFirst_L4, if_neg c_1, if_pos c_2, if_neg c_3, if_neg c_4]) ls (lv_sub hl [2, 1, 0] rfl)
  refine lv_iconst (v := (-1 : Int32)) hx hb dX7_dueFirst_0 (by decide) ?_
  refine lv_istore_n (lv' := [(1, .int (-1 : Int32)), (0, .ref a0)]) hx hb dX7_dueFirst_1 rfl hl (by decide) rfl (fun ls hl => ?_)
  refine lv_iconst (v := (0 : Int32)) hx hb dX7_dueFirst_2 (by decide) ?_
  refine lv_istore_n (lv' := [(2, .int (0 : Int32)), (1, .int (-1 : Int32)), (0, .ref a0)]) hx hb dX7_dueFirst_3 rfl hl (by decide) rfl (fun ls hl => ?_)
  exact L_4 100 (-1 : Int32) (0 : Int32) (by decide) (Or.inl rfl) (lp_init (M := 16) hOK.2 (by decide)) (by rw [m_X7_dueFirst]) ls (lv_sub hl [2, 1, 0] rfl)
def m_X7_mostCompleted_L18 : Nat → UnT → Int32 → Int32 → Int32 → Int32 → Int32 → Int32 → Int32 × Int32
  | 0, _, _, _, _, _, _, _ => (0, 0)
  | nF + 1, un, x1, x2, mo, pt, n, u => if (uN un) ≤ u then (n, u) else if (m_X7_isOfKindAt un u x2 x1) = (0 : Int32) then m_X7_mostCompleted_L18 nF un x1 x2 mo pt (n + (0 : Int32)) (u + (1 : Int32)) else if (m_X7_hasPart un u pt) = (0 : Int32) then m_X7_mostCompleted_L18 nF un x1 x2 mo pt (n + (0 : Int32)) (u + (1 : Int32)) else m_X7_mostCompleted_L18 nF un x1 x2 mo pt (n + (1 : Int32)) (u + (1 : Int32))
def m_X7_mostCompleted_L6 : Nat → UnT → Int32 → Int32 → Int32 → Int32 → Int32
  | 0, _, _, _, _, _ => 0
  | nF + 1, un, x1, x2, mo, pt => if (3 : Int32) ≤ pt then mo else m_X7_mostCompleted_L6 nF un x1 x2 (if (m_X7_mostCompleted_L18 100 un x1 x2 mo pt (0 : Int32) (0 : Int32)).1 < mo then (m_X7_mostCompleted_L18 100 un x1 x2 mo pt (0 : Int32) (0 : Int32)).1 else mo) (pt + (1 : Int32))
def m_X7_mostCompleted (un : UnT) (x1 : Int32) (x2 : Int32) : Int32 := m_X7_mostCompleted_L6 100 un x1 x2 (16 : Int32) (0 : Int32)
theorem hd_X7_mostCompleted : yX7_mostCompleted.cls = RX7 ∧ yX7_mostCompleted.cls ≠ "java/lang/invoke/MethodHandle" ∧ yX7_mostCompleted.cls ≠ "java/lang/invoke/VarHandle" ∧ (parseMethodDescriptor yX7_mostCompleted.desc).map (fun d => d.parameters.length) = some 2 := by decide +kernel
set_option maxHeartbeats 8000000 in
set_option maxRecDepth 20000 in
theorem c_X7_mostCompleted (l : Launch) (D : va_G) (cy : Nat → ClassId) (a0 a1 a2 a3 a4 a5 : Nat) (un : UnT) (x1 : Int32) (x2 : Int32) (hOK : uOK un) : RO l D cy yX7_mostCompleted wsX7_mostCompleted ({ frames := 2, cells := 0, slots := 0, locals := 44 } : Room) (wUn cy a0 a1 a2 a3 a4 a5 un) [.ref a0, .int x1, .int x2] (m_X7_mostCompleted un x1 x2) := by
  refine RO.body (by decide) rfl (Nat.le_of_ble_eq_true rfl) ?_
  intro p e s m below meth c hx hb hml hr hts hown hlocks hP hG ls hl
  have hl : lv_has ls 7 [(0, .ref a0), (1, .int x1), (2, .int x2)] := hl
  have hCF : CallFix p m c cX7_mostCompleted 7 s ([.ref a0, .int x1, .int x2] : List Value).toArray wsX7_mostCompleted RX7 := ⟨hx, hb, hml, hown, hts⟩
  have in_X7 : ∀ w ∈ u_ws RX7 TX7 6, w ∈ wsX7_mostCompleted := fun _ h => List.mem_cons_of_mem _ (List.mem_append_right _ h)
  have k_0 := hts (Cond.fieldLink RX7 33 "SparePool$Units" "count" "I") (List.mem_of_getElem? (i := 1) rfl)
  have k_1 := hts (Cond.methodLink RX7 65 Lib.Math.min.name) (List.mem_of_getElem? (i := 2) rfl)
  have k_2 := hts (Cond.static Lib.Math.min.name) (List.mem_of_getElem? (i := 3) rfl)
  have k_3 := hts (Cond.initialized "java/lang/Math") (List.mem_of_getElem? (i := 4) rfl)
  have k_4 := hts (Cond.code Lib.Math.min.name Lib.Math.min.code 2 (some .int)) (List.mem_of_getElem? (i := 5) rfl)
  have L_18 : ∀ (nF : Nat) (mo : Int32) (pt : Int32) (n : Int32) (u : Int32), 0 ≤ u.toInt → ((uN un).toInt - u.toInt).toNat < nF → (∀ ls : Array Slot, lv_has ls 7 [(0, .ref a0), (1, .int x1), (2, .int x2), (3, .int mo), (4, .int pt), (5, .int (m_X7_mostCompleted_L18 nF un x1 x2 mo pt n u).1), (6, .int (m_X7_mostCompleted_L18 nF un x1 x2 mo pt n u).2)] → W p l e ({ frames := 2, cells := 0, slots := 0, locals := 44 } : Room) s m ([.ref a0, .int x1, .int x2] : List Value).toArray below meth c s.heap [] 0 0 (MQ below (vp_Si (fun v_ => v_ = (m_X7_mostCompleted un x1 x2))) ([.ref a0, .int x1, .int x2] : List Value).toArray s 0 0 (fun _ => False)) (F0 m 65 ls [])) → ∀ ls : Array Slot, lv_has ls 7 [(0, .ref a0), (1, .int x1), (2, .int x2), (3, .int mo), (4, .int pt), (5, .int n), (6, .int u)] → W p l e ({ frames := 2, cells := 0, slots := 0, locals := 44 } : Room) s m ([.ref a0, .int x1, .int x2] : List Value).toArray below meth c s.heap [] 0 0 (MQ below (vp_Si (fun v_ => v_ = (m_X7_mostCompleted un x1 x2))) ([.ref a0, .int x1, .int x2] : List Value).toArray s 0 0 (fun _ => False)) (F0 m 18 ls []) := by
    intro nF mo pt
    induction nF with
    | zero => intro n u h0 hm; exact absurd hm (Nat.not_lt_zero _)
    | succ nF ih =>
      intro n u h0 hm K ls hl
      refine lv_iload hx hb dX7_mostCompleted_18 (lv_at hl 6 rfl) ?_
      refine lv_aload_n hx hb dX7_mostCompleted_20 rfl (lv_at hl 0 rfl) ?_
      refine va_get (D := D) (ci := 5) (v := .int (uN un)) (C := RX7) (T := TX7) (N := 6) hx hb hts in_X7 hown hG.1 hP 0 g_Un_0 rfl 5 (by decide) k_0 (fun _ h9 => h9) rfl dX7_mostCompleted_21 ?_
      refine lv_icmp_ge (tgt := 65) hx hb dX7_mostCompleted_24 (by decide) (fun c_1 => ?_) (fun c_1 => ?_)
      · skip
        rw [m_X7_mostCompleted_L18, if_pos c_1] at K
        exact K ls (lv_sub hl [0, 1, 2, 3, 4, 5, 6] rfl)
      · skip
        refine lv_iload hx hb dX7_mostCompleted_27 (lv_at hl 5 rfl) ?_
        refine lv_aload_n hx hb dX7_mostCompleted_29 rfl (lv_at hl 0 rfl) ?_
        refine lv_iload hx hb dX7_mostCompleted_30 (lv_at hl 6 rfl) ?_
        refine lv_iload_n hx hb dX7_mostCompleted_32 rfl (lv_at hl 2 rfl) ?_
        refine lv_iload_n hx hb dX7_mostCompleted_33 rfl (lv_at hl 1 rfl) ?_
        refine roV (wc := (wUn cy a0 a1 a2 a3 a4 a5 un)) (As := [.int u, .int x2, .int x1]) (rest := [.int n]) (c_X7_isOfKindAt l D cy a0 a1 a2 a3 a4 a5 un u x2 x1 hOK) hCF gX7_mostCompleted_X7_isOfKindAt rfl hd_X7_isOfKindAt ⟨rfl, rfl, Nat.le_of_ble_eq_true rfl, Nat.le_of_ble_eq_true rfl⟩ hG hP (ci := 5) rfl rfl g_Un_0 rfl hl.1 rfl (Nat.le_of_ble_eq_true rfl) dX7_mostCompleted_34 ⟨Nat.le_refl _, Nat.le_refl _⟩ ?_
        refine lv_if_eq (tgt := 55) hx hb dX7_mostCompleted_37 (by decide) (fun c_2 => ?_) (fun c_2 => ?_)
        · skip
          refine lv_iconst (v := (0 : Int32)) hx hb dX7_mostCompleted_55 (by decide) ?_
          refine lv_iadd hx hb dX7_mostCompleted_56 ?_
          refine lv_istore (lv' := [(5, .int (n + (0 : Int32))), (0, .ref a0), (1, .int x1), (2, .int x2), (3, .int mo), (4, .int pt), (6, .int u)]) hx hb dX7_mostCompleted_57 hl (by decide) rfl (fun ls hl => ?_)
          refine lv_iinc (v := (u + (1 : Int32))) (lv' := [(6, .int (u + (1 : Int32))), (5, .int (n + (0 : Int32))), (0, .ref a0), (1, .int x1), (2, .int x2), (3, .int mo), (4, .int pt)]) hx hb dX7_mostCompleted_59 hl (k := 6) rfl rfl (by decide) rfl (fun ls hl => ?_)
          refine lv_goto (tgt := 18) hx hb dX7_mostCompleted_62 (by decide) ?_
          refine ih (n + (0 : Int32)) (u + (1 : Int32)) (lp_up h0 c_1) (lp_dec h0 c_1 hm) (by rw [m_X7_mostCompleted_L18, if_neg c_1, if_pos c_2] at K; exact K) ls (lv_sub hl [2, 3, 4, 5, 6, 1, 0] rfl)
        · skip
          refine lv_aload_n hx hb dX7_mostCompleted_40 rfl (lv_at hl 0 rfl) ?_
          refine lv_iload hx hb dX7_mostCompleted_41 (lv_at hl 6 rfl) ?_
          refine lv_iload hx hb dX7_mostCompleted_43 (lv_at hl 4 rfl) ?_
          refine roV (wc := (wUn cy a0 a1 a2 a3 a4 a5 un)) (As := [.int u, .int pt]) (rest := [.int n]) (c_X7_hasPart l D cy a0 a1 a2 a3 a4 a5 un u pt hOK) hCF gX7_mostCompleted_X7_hasPart rfl hd_X7_hasPart ⟨rfl, rfl, Nat.le_of_ble_eq_true rfl, Nat.le_of_ble_eq_true rfl⟩ hG hP (ci := 5) rfl rfl g_Un_0 rfl hl.1 rfl (Nat.le_of_ble_eq_true rfl) dX7_mostCompleted_45 ⟨Nat.le_refl _, Nat.le_refl _⟩ ?_
          refine lv_if_eq (tgt := 55) hx hb dX7_mostCompleted_48 (by decide) (fun c_3 => ?_) (fun c_3 => ?_)
          · skip
            refine lv_iconst (v := (0 : Int32)) hx hb dX7_mostCompleted_55 (by decide) ?_
            refine lv_iadd hx hb dX7_mostCompleted_56 ?_
            refine lv_istore (lv' := [(5, .int (n + (0 : Int32))), (0, .ref a0), (1, .int x1), (2, .int x2), (3, .int mo), (4, .int pt), (6, .int u)]) hx hb dX7_mostCompleted_57 hl (by decide) rfl (fun ls hl => ?_)
            refine lv_iinc (v := (u + (1 : Int32))) (lv' := [(6, .int (u + (1 : Int32))), (5, .int (n + (0 : Int32))), (0, .ref a0), (1, .int x1), (2, .int x2), (3, .int mo), (4, .int pt)]) hx hb dX7_mostCompleted_59 hl (k := 6) rfl rfl (by decide) rfl (fun ls hl => ?_)
            refine lv_goto (tgt := 18) hx hb dX7_mostCompleted_62 (by decide) ?_
            refine ih (n + (0 : Int32)) (u + (1 : Int32)) (lp_up h0 c_1) (lp_dec h0 c_1 hm) (by rw [m_X7_mostCompleted_L18, if_neg c_1, if_neg c_2, if_pos c_3] at K; exact K) ls (lv_sub hl [2, 3, 4, 5, 6, 1, 0] rfl)
          · skip
            refine lv_iconst (v := (1 : Int32)) hx hb dX7_mostCompleted_51 (by decide) ?_
            refine lv_goto (tgt := 56) hx hb dX7_mostCompleted_52 (by decide) ?_
            refine lv_iadd hx hb dX7_mostCompleted_56 ?_
            refine lv_istore (lv' := [(5, .int (n + (1 : Int32))), (0, .ref a0), (1, .int x1), (2, .int x2), (3, .int mo), (4, .int pt), (6, .int u)]) hx hb dX7_mostCompleted_57 hl (by decide) rfl (fun ls hl => ?_)
            refine lv_iinc (v := (u + (1 : Int32))) (lv' := [(6, .int (u + (1 : Int32))), (5, .int (n + (1 : Int32))), (0, .ref a0), (1, .int x1), (2, .int x2), (3, .int mo), (4, .int pt)]) hx hb dX7_mostCompleted_59 hl (k := 6) rfl rfl (by decide) rfl (fun ls hl => ?_)
            refine lv_goto (tgt := 18) hx hb dX7_mostCompleted_62 (by decide) ?_
            refine ih (n + (1 : Int32)) (u + (1 : Int32)) (lp_up h0 c_1) (lp_dec h0 c_1 hm) (by rw [m_X7_mostCompleted_L18, if_neg c_1, if_neg c_2, if_neg c_3] at K; exact K) ls (lv_sub hl [2, 3, 4, 5, 6, 1, 0] rfl)
  have L_6 : ∀ (nF : Nat) (mo : Int32) (pt : Int32), 0 ≤ pt.toInt → ((3 : Int32).toInt - pt.toInt).toNat < nF → m_X7_mostCompleted_L6 nF un x1 x2 mo pt = (m_X7_mostCompleted un x1 x2) → ∀ ls : Array Slot, lv_has ls 7 [(0, .ref a0), (1, .int x1), (2, .int x2), (3, .int mo), (4, .int pt)] → W p l e ({ frames := 2, cells := 0, slots := 0, locals := 44 } : Room) s m ([.ref a0, .int x1, .int x2] : List Value).toArray below meth c s.heap [] 0 0 (MQ below (vp_Si (fun v_ => v_ = (m_X7_mostCompleted un x1 x2))) ([.ref a0, .int x1, .int x2] : List Value).toArray s 0 0 (fun _ => False)) (F0 m 6 ls []) := by
    intro nF
    induction nF with
    | zero => intro mo pt h0 hm; exact absurd hm (Nat.not_lt_zero _)
    | succ nF ih =>
      intro mo pt h0 hm hQ ls hl
      refine lv_iload hx hb dX7_mostCompleted_6 (lv_at hl 4 rfl) ?_
      refine lv_iconst (v := (3 : Int32)) hx hb dX7_mostCompleted_8 (by decide) ?_
      refine lv_icmp_ge (tgt := 78) hx hb dX7_mostCompleted_9 (by decide) (fun c_4 => ?_) (fun c_4 => ?_)
      · skip
        refine lv_iload_n hx hb dX7_mostCompleted_78 rfl (lv_at hl 3 rfl) ?_
        exact ro_iret hx hb hr hlocks dX7_mostCompleted_79 (by rw [← hQ, m_X7_mostCompleted_L6, if_pos c_4])
      · skip
        refine lv_iconst (v := (0 : Int32)) hx hb dX7_mostCompleted_12 (by decide) ?_
        refine lv_istore (lv' := [(5, .int (0 : Int32)), (0, .ref a0), (1, .int x1), (2, .int x2), (3, .int mo), (4, .int pt)]) hx hb dX7_mostCompleted_13 hl (by decide) rfl (fun ls hl => ?_)
        refine lv_iconst (v := (0 : Int32)) hx hb dX7_mostCompleted_15 (by decide) ?_
        refine lv_istore (lv' := [(6, .int (0 : Int32)), (5, .int (0 : Int32)), (0, .ref a0), (1, .int x1), (2, .int x2), (3, .int mo), (4, .int pt)]) hx hb dX7_mostCompleted_16 hl (by decide) rfl (fun ls hl => ?_)
        refine L_18 100 mo pt (0 : Int32) (0 : Int32) (by decide) (lp_init (M := 16) hOK.2 (by decide)) (fun ls hl => ?_) ls (lv_sub hl [2, 3, 4, 5, 6, 1, 0] rfl)
        have hl : lv_has ls 7 [(0, .ref a0), (1, .int x1), (2, .int x2), (3, .int mo), (4, .int pt), (5, .int (m_X7_mostCompleted_L18 100 un x1 x2 mo pt (0 : Int32) (0 : Int32)).1), (6, .int (m_X7_mostCompleted_L18 100 un x1 x2 mo pt (0 : Int32) (0 : Int32)).2)] := hl
        refine lv_iload_n hx hb dX7_mostCompleted_65 rfl (lv_at hl 3 rfl) ?_
        refine lv_iload hx hb dX7_mostCompleted_66 (lv_at hl 5 rfl) ?_
        refine va_mmin hx hb (hml.trans hl.1.symm) hown k_1 k_2 k_3 k_4 (Nat.le_of_ble_eq_true rfl) (Nat.le_of_ble_eq_true rfl) (Nat.le_refl _) (Nat.le_refl _) dX7_mostCompleted_68 ?_
        refine lv_istore_n (lv' := [(3, .int (if (m_X7_mostCompleted_L18 100 un x1 x2 mo pt (0 : Int32) (0 : Int32)).1 < mo then (m_X7_mostCompleted_L18 100 un x1 x2 mo pt (0 : Int32) (0 : Int32)).1 else mo)), (0, .ref a0), (1, .int x1), (2, .int x2), (4, .int pt), (5, .int (m_X7_mostCompleted_L18 100 un x1 x2 mo pt (0 : Int32) (0 : Int32)).1), (6, .int (m_X7_mostCompleted_L18 100 un x1 x2 mo pt (0 : Int32) (0 : Int32)).2)]) hx hb dX7_mostCompleted_71 rfl hl (by decide) rfl (fun ls hl => ?_)
        refine lv_iinc (v := (pt + (1 : Int32))) (lv' := [(4, .int (pt + (1 : Int32))), (3, .int (if (m_X7_mostCompleted_L18 100 un x1 x2 mo pt (0 : Int32) (0 : Int32)).1 < mo then (m_X7_mostCompleted_L18 100 un x1 x2 mo pt (0 : Int32) (0 : Int32)).1 else mo)), (0, .ref a0), (1, .int x1), (2, .int x2), (5, .int (m_X7_mostCompleted_L18 100 un x1 x2 mo pt (0 : Int32) (0 : Int32)).1), (6, .int (m_X7_mostCompleted_L18 100 un x1 x2 mo pt (0 : Int32) (0 : Int32)).2)]) hx hb dX7_mostCompleted_72 hl (k := 4) rfl rfl (by decide) rfl (fun ls hl => ?_)
        refine lv_goto (tgt := 6) hx hb dX7_mostCompleted_75 (by decide) ?_
        exact ih  (if (m_X7_mostCompleted_L18 100 un x1 x2 mo pt (0 : Int32) (0 : Int32)).1 < mo then (m_X7_mostCompleted_L18 100 un x1 x2 mo pt (0 : Int32) (0 : Int32)).1 else mo) (pt + (1 : Int32)) (lp_up h0 c_4) (lp_dec h0 c_4 hm) (by rw [← hQ, m_X7_mostCompleted_L6, if_neg c_4]) ls (lv_sub hl [2, 3, 4, 1, 0] rfl)
  refine lv_bipush (v := (16 : Int32)) hx hb dX7_mostCompleted_0 (by decide) ?_
  refine lv_istore_n (lv' := [(3, .int (16 : Int32)), (0, .ref a0), (1, .int x1), (2, .int x2)]) hx hb dX7_mostCompleted_2 rfl hl (by decide) rfl (fun ls hl => ?_)
  refine lv_iconst (v := (0 : Int32)) hx hb dX7_mostCompleted_3 (by decide) ?_
  refine lv_istore (lv' := [(4, .int (0 : Int32)), (3, .int (16 : Int32)), (0, .ref a0), (1, .int x1), (2, .int x2)]) hx hb dX7_mostCompleted_4 hl (by decide) rfl (fun ls hl => ?_)
  exact L_6 100 (16 : Int32) (0 : Int32) (by decide) (lp_init (M := 3) (by decide) (by decide)) (by rw [m_X7_mostCompleted]) ls (lv_sub hl [2, 3, 4, 1, 0] rfl)
def m_X7_withGaps_L6 : Nat → UnT → Int32 → Int32 → Int32 → Int32 → Int32 → Int32
  | 0, _, _, _, _, _, _ => 0
  | nF + 1, un, x1, x2, x3, n, u => if (uN un) ≤ u then n else if (m_X7_isOfKindAt un u x2 x1) = (0 : Int32) then m_X7_withGaps_L6 nF un x1 x2 x3 (n + (0 : Int32)) (u + (1 : Int32)) else if (m_X7_missingParts un u) = x3 then m_X7_withGaps_L6 nF un x1 x2 x3 (n + (1 : Int32)) (u + (1 : Int32)) else m_X7_withGaps_L6 nF un x1 x2 x3 (n + (0 : Int32)) (u + (1 : Int32))
def m_X7_withGaps (un : UnT) (x1 : Int32) (x2 : Int32) (x3 : Int32) : Int32 := m_X7_withGaps_L6 100 un x1 x2 x3 (0 : Int32) (0 : Int32)
theorem hd_X7_withGaps : yX7_withGaps.cls = RX7 ∧ yX7_withGaps.cls ≠ "java/lang/invoke/MethodHandle" ∧ yX7_withGaps.cls ≠ "java/lang/invoke/VarHandle" ∧ (parseMethodDescriptor yX7_withGaps.desc).map (fun d => d.parameters.length) = some 3 := by decide +kernel
set_option maxHeartbeats 8000000 in
set_option maxRecDepth 20000 in
theorem c_X7_withGaps (l : Launch) (D : va_G) (cy : Nat → ClassId) (a0 a1 a2 a3 a4 a5 : Nat) (un : UnT) (x1 : Int32) (x2 : Int32) (x3 : Int32) (hOK : uOK un) : RO l D cy yX7_withGaps wsX7_withGaps ({ frames := 2, cells := 0, slots := 0, locals := 44 } : Room) (wUn cy a0 a1 a2 a3 a4 a5 un) [.ref a0, .int x1, .int x2, .int x3] (m_X7_withGaps un x1 x2 x3) := by
  refine RO.body (by decide) rfl (Nat.le_of_ble_eq_true rfl) ?_
  intro p e s m below meth c hx hb hml hr hts hown hlocks hP hG ls hl
  have hl : lv_has ls 6 [(0, .ref a0), (1, .int x1), (2, .int x2), (3, .int x3)] := hl
  have hCF : CallFix p m c cX7_withGaps 6 s ([.ref a0, .int x1, .int x2, .int x3] : List Value).toArray wsX7_withGaps RX7 := ⟨hx, hb, hml, hown, hts⟩
  have in_X7 : ∀ w ∈ u_ws RX7 TX7 6, w ∈ wsX7_withGaps := fun _ h => List.mem_cons_of_mem _ (List.mem_append_right _ h)
  have k_0 := hts (Cond.fieldLink RX7 33 "SparePool$Units" "count" "I") (List.mem_of_getElem? (i := 1) rfl)
  have L_6 : ∀ (nF : Nat) (n : Int32) (u : Int32), 0 ≤ u.toInt → ((uN un).toInt - u.toInt).toNat < nF → m_X7_withGaps_L6 nF un x1 x2 x3 n u = (m_X7_withGaps un x1 x2 x3) → ∀ ls : Array Slot, lv_has ls 6 [(0, .ref a0), (1, .int x1), (2, .int x2), (3, .int x3), (4, .int n), (5, .int u)] → W p l e ({ frames := 2, cells := 0, slots := 0, locals := 44 } : Room) s m ([.ref a0, .int x1, .int x2, .int x3] : List Value).toArray below meth c s.heap [] 0 0 (MQ below (vp_Si (fun v_ => v_ = (m_X7_withGaps un x1 x2 x3))) ([.ref a0, .int x1, .int x2, .int x3] : List Value).toArray s 0 0 (fun _ => False)) (F0 m 6 ls []) := by
    intro nF
    induction nF with
    | zero => intro n u h0 hm; exact absurd hm (Nat.not_lt_zero _)
    | succ nF ih =>
      intro n u h0 hm hQ ls hl
      refine lv_iload hx hb dX7_withGaps_6 (lv_at hl 5 rfl) ?_
      refine lv_aload_n hx hb dX7_withGaps_8 rfl (lv_at hl 0 rfl) ?_
      refine va_get (D := D) (ci := 5) (v := .int (uN un)) (C := RX7) (T := TX7) (N := 6) hx hb hts in_X7 hown hG.1 hP 0 g_Un_0 rfl 5 (by decide) k_0 (fun _ h9 => h9) rfl dX7_withGaps_9 ?_
      refine lv_icmp_ge (tgt := 52) hx hb dX7_withGaps_12 (by decide) (fun c_1 => ?_) (fun c_1 => ?_)
      · skip
        refine lv_iload hx hb dX7_withGaps_52 (lv_at hl 4 rfl) ?_
        exact ro_iret hx hb hr hlocks dX7_withGaps_54 (by rw [← hQ, m_X7_withGaps_L6, if_pos c_1])
      · skip
        refine lv_iload hx hb dX7_withGaps_15 (lv_at hl 4 rfl) ?_
        refine lv_aload_n hx hb dX7_withGaps_17 rfl (lv_at hl 0 rfl) ?_
        refine lv_iload hx hb dX7_withGaps_18 (lv_at hl 5 rfl) ?_
        refine lv_iload_n hx hb dX7_withGaps_20 rfl (lv_at hl 2 rfl) ?_
        refine lv_iload_n hx hb dX7_withGaps_21 rfl (lv_at hl 1 rfl) ?_
        refine roV (wc := (wUn cy a0 a1 a2 a3 a4 a5 un)) (As := [.int u, .int x2, .int x1]) (rest := [.int n]) (c_X7_isOfKindAt l D cy a0 a1 a2 a3 a4 a5 un u x2 x1 hOK) hCF gX7_withGaps_X7_isOfKindAt rfl hd_X7_isOfKindAt ⟨rfl, rfl, Nat.le_of_ble_eq_true rfl, Nat.le_of_ble_eq_true rfl⟩ hG hP (ci := 5) rfl rfl g_Un_0 rfl hl.1 rfl (Nat.le_of_ble_eq_true rfl) dX7_withGaps_22 ⟨Nat.le_refl _, Nat.le_refl _⟩ ?_
        refine lv_if_eq (tgt := 42) hx hb dX7_withGaps_25 (by decide) (fun c_2 => ?_) (fun c_2 => ?_)
        · skip
          refine lv_iconst (v := (0 : Int32)) hx hb dX7_withGaps_42 (by decide) ?_
          refine lv_iadd hx hb dX7_withGaps_43 ?_
          refine lv_istore (lv' := [(4, .int (n + (0 : Int32))), (0, .ref a0), (1, .int x1), (2, .int x2), (3, .int x3), (5, .int u)]) hx hb dX7_withGaps_44 hl (by decide) rfl (fun ls hl => ?_)
          refine lv_iinc (v := (u + (1 : Int32))) (lv' := [(5, .int (u + (1 : Int32))), (4, .int (n + (0 : Int32))), (0, .ref a0), (1, .int x1), (2, .int x2), (3, .int x3)]) hx hb dX7_withGaps_46 hl (k := 5) rfl rfl (by decide) rfl (fun ls hl => ?_)
          refine lv_goto (tgt := 6) hx hb dX7_withGaps_49 (by decide) ?_
          exact ih  (n + (0 : Int32)) (u + (1 : Int32)) (lp_up h0 c_1) (lp_dec h0 c_1 hm) (by rw [← hQ, m_X7_withGaps_L6, if_neg c_1, if_pos c_2]) ls (lv_sub hl [2, 3, 4, 5, 1, 0] rfl)
        · skip
          refine lv_aload_n hx hb dX7_withGaps_28 rfl (lv_at hl 0 rfl) ?_
          refine lv_iload hx hb dX7_withGaps_29 (lv_at hl 5 rfl) ?_
          refine roV (wc := (wUn cy a0 a1 a2 a3 a4 a5 un)) (As := [.int u]) (rest := [.int n]) (c_X7_missingParts l D cy a0 a1 a2 a3 a4 a5 un u hOK) hCF gX7_withGaps_X7_missingParts rfl hd_X7_missingParts ⟨rfl, rfl, Nat.le_of_ble_eq_true rfl, Nat.le_of_ble_eq_true rfl⟩ hG hP (ci := 5) rfl rfl g_Un_0 rfl hl.1 rfl (Nat.le_of_ble_eq_true rfl) dX7_withGaps_31 ⟨Nat.le_refl _, Nat.le_refl _⟩ ?_
          refine lv_iload_n hx hb dX7_withGaps_34 rfl (lv_at hl 3 rfl) ?_
          refine lv_icmp_ne (tgt := 42) hx hb dX7_withGaps_35 (by decide) (fun c_3 => ?_) (fun c_3 => ?_)
          · skip
            refine lv_iconst (v := (0 : Int32)) hx hb dX7_withGaps_42 (by decide) ?_
            refine lv_iadd hx hb dX7_withGaps_43 ?_
            refine lv_istore (lv' := [(4, .int (n + (0 : Int32))), (0, .ref a0), (1, .int x1), (2, .int x2), (3, .int x3), (5, .int u)]) hx hb dX7_withGaps_44 hl (by decide) rfl (fun ls hl => ?_)
            refine lv_iinc (v := (u + (1 : Int32))) (lv' := [(5, .int (u + (1 : Int32))), (4, .int (n + (0 : Int32))), (0, .ref a0), (1, .int x1), (2, .int x2), (3, .int x3)]) hx hb dX7_withGaps_46 hl (k := 5) rfl rfl (by decide) rfl (fun ls hl => ?_)
            refine lv_goto (tgt := 6) hx hb dX7_withGaps_49 (by decide) ?_
            exact ih  (n + (0 : Int32)) (u + (1 : Int32)) (lp_up h0 c_1) (lp_dec h0 c_1 hm) (by rw [← hQ, m_X7_withGaps_L6, if_neg c_1, if_neg c_2, if_neg c_3]) ls (lv_sub hl [2, 3, 4, 5, 1, 0] rfl)
          · skip
            refine lv_iconst (v := (1 : Int32)) hx hb dX7_withGaps_38 (by decide) ?_
            refine lv_goto (tgt := 43) hx hb dX7_withGaps_39 (by decide) ?_
            refine lv_iadd hx hb dX7_withGaps_43 ?_
            refine lv_istore (lv' := [(4, .int (n + (1 : Int32))), (0, .ref a0), (1, .int x1), (2, .int x2), (3, .int x3), (5, .int u)]) hx hb dX7_withGaps_44 hl (by decide) rfl (fun ls hl => ?_)
            refine lv_iinc (v := (u + (1 : Int32))) (lv' := [(5, .int (u + (1 : Int32))), (4, .int (n + (1 : Int32))), (0, .ref a0), (1, .int x1), (2, .int x2), (3, .int x3)]) hx hb dX7_withGaps_46 hl (k := 5) rfl rfl (by decide) rfl (fun ls hl => ?_)
            refine lv_goto (tgt := 6) hx hb dX7_withGaps_49 (by decide) ?_
            exact ih  (n + (1 : Int32)) (u + (1 : Int32)) (lp_up h0 c_1) (lp_dec h0 c_1 hm) (by rw [← hQ, m_X7_withGaps_L6, if_neg c_1, if_neg c_2, if_pos c_3]) ls (lv_sub hl [2, 3, 4, 5, 1, 0] rfl)
  refine lv_iconst (v := (0 : Int32)) hx hb dX7_withGaps_0 (by decide) ?_
  refine lv_istore (lv' := [(4, .int (0 : Int32)), (0, .ref a0), (1, .int x1), (2, .int x2), (3, .int x3)]) hx hb dX7_withGaps_1 hl (by decide) rfl (fun ls hl => ?_)
  refine lv_iconst (v := (0 : Int32)) hx hb dX7_withGaps_3 (by decide) ?_
  refine lv_istore (lv' := [(5, .int (0 : Int32)), (4, .int (0 : Int32)), (0, .ref a0), (1, .int x1), (2, .int x2), (3, .int x3)]) hx hb dX7_withGaps_4 hl (by decide) rfl (fun ls hl => ?_)
  exact L_6 100 (0 : Int32) (0 : Int32) (by decide) (lp_init (M := 16) hOK.2 (by decide)) (by rw [m_X7_withGaps]) ls (lv_sub hl [2, 3, 4, 5, 1, 0] rfl)
theorem ft_le {g : Int32} (c : ¬ (3 : Int32) < g) : ¬ (4 : Int32) ≤ g := by
  rw [i32_lt] at c
  rw [i32_le]
  have : (3 : Int32).toInt = 3 := by decide
  have : (4 : Int32).toInt = 4 := by decide
  omega
def m_X7_fewestTakings_L13 : Nat → UnT → Int32 → Int32 → Int32 → Int32 → Int32 → Int32
  | 0, _, _, _, _, _, _ => 0
  | nF + 1, un, x1, x2, lf, t, g => if (3 : Int32) < g then t else m_X7_fewestTakings_L13 nF un x1 x2 (lf - (if (m_X7_withGaps un x1 x2 g) < lf then m_X7_withGaps un x1 x2 g else lf)) (t + ((if (m_X7_withGaps un x1 x2 g) < lf then m_X7_withGaps un x1 x2 g else lf) * g)) (g + (1 : Int32))
def m_X7_fewestTakings (un : UnT) (x1 : Int32) (x2 : Int32) : Int32 := m_X7_fewestTakings_L13 100 un x1 x2 (m_X7_mostCompleted un x1 x2) (0 : Int32) (0 : Int32)
theorem hd_X7_fewestTakings : yX7_fewestTakings.cls = RX7 ∧ yX7_fewestTakings.cls ≠ "java/lang/invoke/MethodHandle" ∧ yX7_fewestTakings.cls ≠ "java/lang/invoke/VarHandle" ∧ (parseMethodDescriptor yX7_fewestTakings.desc).map (fun d => d.parameters.length) = some 2 := by decide +kernel
set_option maxHeartbeats 8000000 in
set_option maxRecDepth 20000 in
theorem c_X7_fewestTakings (l : Launch) (D : va_G) (cy : Nat → ClassId) (a0 a1 a2 a3 a4 a5 : Nat) (un : UnT) (x1 : Int32) (x2 : Int32) (hOK : uOK un) : RO l D cy yX7_fewestTakings wsX7_fewestTakings ({ frames := 3, cells := 0, slots := 0, locals := 70 } : Room) (wUn cy a0 a1 a2 a3 a4 a5 un) [.ref a0, .int x1, .int x2] (m_X7_fewestTakings un x1 x2) := by
  refine RO.body (by decide) rfl (Nat.le_of_ble_eq_true rfl) ?_
  intro p e s m below meth c hx hb hml hr hts hown hlocks hP hG ls hl
  have hl : lv_has ls 7 [(0, .ref a0), (1, .int x1), (2, .int x2)] := hl
  have hCF : CallFix p m c cX7_fewestTakings 7 s ([.ref a0, .int x1, .int x2] : List Value).toArray wsX7_fewestTakings RX7 := ⟨hx, hb, hml, hown, hts⟩
  have k_0 := hts (Cond.methodLink RX7 65 Lib.Math.min.name) (List.mem_of_getElem? (i := 1) rfl)
  have k_1 := hts (Cond.static Lib.Math.min.name) (List.mem_of_getElem? (i := 2) rfl)
  have k_2 := hts (Cond.initialized "java/lang/Math") (List.mem_of_getElem? (i := 3) rfl)
  have k_3 := hts (Cond.code Lib.Math.min.name Lib.Math.min.code 2 (some .int)) (List.mem_of_getElem? (i := 4) rfl)
  have L_13 : ∀ (nF : Nat) (lf : Int32) (t : Int32) (g : Int32), 0 ≤ g.toInt → ((4 : Int32).toInt - g.toInt).toNat < nF → m_X7_fewestTakings_L13 nF un x1 x2 lf t g = (m_X7_fewestTakings un x1 x2) → ∀ ls : Array Slot, lv_has ls 7 [(0, .ref a0), (1, .int x1), (2, .int x2), (3, .int lf), (4, .int t), (5, .int g)] → W p l e ({ frames := 3, cells := 0, slots := 0, locals := 70 } : Room) s m ([.ref a0, .int x1, .int x2] : List Value).toArray below meth c s.heap [] 0 0 (MQ below (vp_Si (fun v_ => v_ = (m_X7_fewestTakings un x1 x2))) ([.ref a0, .int x1, .int x2] : List Value).toArray s 0 0 (fun _ => False)) (F0 m 13 ls []) := by
    intro nF
    induction nF with
    | zero => intro lf t g h0 hm; exact absurd hm (Nat.not_lt_zero _)
    | succ nF ih =>
      intro lf t g h0 hm hQ ls hl
      refine lv_iload hx hb dX7_fewestTakings_13 (lv_at hl 5 rfl) ?_
      refine lv_iconst (v := (3 : Int32)) hx hb dX7_fewestTakings_15 (by decide) ?_
      refine lv_icmp_gt (tgt := 54) hx hb dX7_fewestTakings_16 (by decide) (fun c_1 => ?_) (fun c_1 => ?_)
      · skip
        refine lv_iload hx hb dX7_fewestTakings_54 (lv_at hl 4 rfl) ?_
        exact ro_iret hx hb hr hlocks dX7_fewestTakings_56 (by rw [← hQ, m_X7_fewestTakings_L13, if_pos c_1])
      · skip
        refine lv_iload_n hx hb dX7_fewestTakings_19 rfl (lv_at hl 3 rfl) ?_
        refine lv_aload_n hx hb dX7_fewestTakings_20 rfl (lv_at hl 0 rfl) ?_
        refine lv_iload_n hx hb dX7_fewestTakings_21 rfl (lv_at hl 1 rfl) ?_
        refine lv_iload_n hx hb dX7_fewestTakings_22 rfl (lv_at hl 2 rfl) ?_
        refine lv_iload hx hb dX7_fewestTakings_23 (lv_at hl 5 rfl) ?_
        refine roV (wc := (wUn cy a0 a1 a2 a3 a4 a5 un)) (As := [.int x1, .int x2, .int g]) (rest := [.int lf]) (c_X7_withGaps l D cy a0 a1 a2 a3 a4 a5 un x1 x2 g hOK) hCF gX7_fewestTakings_X7_withGaps rfl hd_X7_withGaps ⟨rfl, rfl, Nat.le_of_ble_eq_true rfl, Nat.le_of_ble_eq_true rfl⟩ hG hP (ci := 5) rfl rfl g_Un_0 rfl hl.1 rfl (Nat.le_of_ble_eq_true rfl) dX7_fewestTakings_25 ⟨Nat.le_refl _, Nat.le_refl _⟩ ?_
        refine va_mmin hx hb (hml.trans hl.1.symm) hown k_0 k_1 k_2 k_3 (Nat.le_of_ble_eq_true rfl) (Nat.le_of_ble_eq_true rfl) (Nat.le_refl _) (Nat.le_refl _) dX7_fewestTakings_28 ?_
        refine lv_istore (lv' := [(6, .int (if (m_X7_withGaps un x1 x2 g) < lf then m_X7_withGaps un x1 x2 g else lf)), (0, .ref a0), (1, .int x1), (2, .int x2), (3, .int lf), (4, .int t), (5, .int g)]) hx hb dX7_fewestTakings_31 hl (by decide) rfl (fun ls hl => ?_)
        refine lv_iload hx hb dX7_fewestTakings_33 (lv_at hl 5 rfl) ?_
        refine lv_iload hx hb dX7_fewestTakings_35 (lv_at hl 0 rfl) ?_
        refine lv_iload hx hb dX7_fewestTakings_37 (lv_at hl 6 rfl) ?_
        refine lv_imul hx hb dX7_fewestTakings_39 ?_
        refine lv_iadd hx hb dX7_fewestTakings_40 ?_
        refine lv_istore (lv' := [(4, .int (t + ((if (m_X7_withGaps un x1 x2 g) < lf then m_X7_withGaps un x1 x2 g else lf) * g))), (6, .int (if (m_X7_withGaps un x1 x2 g) < lf then m_X7_withGaps un x1 x2 g else lf)), (0, .ref a0), (1, .int x1), (2, .int x2), (3, .int lf), (5, .int g)]) hx hb dX7_fewestTakings_41 hl (by decide) rfl (fun ls hl => ?_)
        refine lv_iload_n hx hb dX7_fewestTakings_43 rfl (lv_at hl 5 rfl) ?_
        refine lv_iload hx hb dX7_fewestTakings_44 (lv_at hl 1 rfl) ?_
        refine lv_isub hx hb dX7_fewestTakings_46 ?_
        refine lv_istore_n (lv' := [(3, .int (lf - (if (m_X7_withGaps un x1 x2 g) < lf then m_X7_withGaps un x1 x2 g else lf))), (4, .int (t + ((if (m_X7_withGaps un x1 x2 g) < lf then m_X7_withGaps un x1 x2 g else lf) * g))), (6, .int (if (m_X7_withGaps un x1 x2 g) < lf then m_X7_withGaps un x1 x2 g else lf)), (0, .ref a0), (1, .int x1), (2, .int x2), (5, .int g)]) hx hb dX7_fewestTakings_47 rfl hl (by decide) rfl (fun ls hl => ?_)
        refine lv_iinc (v := (g + (1 : Int32))) (lv' := [(5, .int (g + (1 : Int32))), (3, .int (lf - (if (m_X7_withGaps un x1 x2 g) < lf then m_X7_withGaps un x1 x2 g else lf))), (4, .int (t + ((if (m_X7_withGaps un x1 x2 g) < lf then m_X7_withGaps un x1 x2 g else lf) * g))), (6, .int (if (m_X7_withGaps un x1 x2 g) < lf then m_X7_withGaps un x1 x2 g else lf)), (0, .ref a0), (1, .int x1), (2, .int x2)]) hx hb dX7_fewestTakings_48 hl (k := 6) rfl rfl (by decide) rfl (fun ls hl => ?_)
        refine lv_goto (tgt := 13) hx hb dX7_fewestTakings_51 (by decide) ?_
        exact ih  (lf - (if (m_X7_withGaps un x1 x2 g) < lf then m_X7_withGaps un x1 x2 g else lf)) (t + ((if (m_X7_withGaps un x1 x2 g) < lf then m_X7_withGaps un x1 x2 g else lf) * g)) (g + (1 : Int32)) (lp_up h0 (ft_le c_1)) (lp_dec h0 (ft_le c_1) hm) (by rw [← hQ, m_X7_fewestTakings_L13, if_neg c_1]) ls (lv_sub hl [4, 5, 6, 1, 2, 0] rfl)
  refine lv_aload_n hx hb dX7_fewestTakings_0 rfl (lv_at hl 0 rfl) ?_
  refine lv_iload_n hx hb dX7_fewestTakings_1 rfl (lv_at hl 1 rfl) ?_
  refine lv_iload_n hx hb dX7_fewestTakings_2 rfl (lv_at hl 2 rfl) ?_
  refine roV (wc := (wUn cy a0 a1 a2 a3 a4 a5 un)) (As := [.int x1, .int x2]) (rest := []) (c_X7_mostCompleted l D cy a0 a1 a2 a3 a4 a5 un x1 x2 hOK) hCF gX7_fewestTakings_X7_mostCompleted rfl hd_X7_mostCompleted ⟨rfl, rfl, Nat.le_of_ble_eq_true rfl, Nat.le_of_ble_eq_true rfl⟩ hG hP (ci := 5) rfl rfl g_Un_0 rfl hl.1 rfl (Nat.le_of_ble_eq_true rfl) dX7_fewestTakings_3 ⟨Nat.le_refl _, Nat.le_refl _⟩ ?_
  refine lv_istore_n (lv' := [(3, .int (m_X7_mostCompleted un x1 x2)), (0, .ref a0), (1, .int x1), (2, .int x2)]) hx hb dX7_fewestTakings_6 rfl hl (by decide) rfl (fun ls hl => ?_)
  refine lv_iconst (v := (0 : Int32)) hx hb dX7_fewestTakings_7 (by decide) ?_
  refine lv_istore (lv' := [(4, .int (0 : Int32)), (3, .int (m_X7_mostCompleted un x1 x2)), (0, .ref a0), (1, .int x1), (2, .int x2)]) hx hb dX7_fewestTakings_8 hl (by decide) rfl (fun ls hl => ?_)
  refine lv_iconst (v := (0 : Int32)) hx hb dX7_fewestTakings_10 (by decide) ?_
  refine lv_istore (lv' := [(5, .int (0 : Int32)), (4, .int (0 : Int32)), (3, .int (m_X7_mostCompleted un x1 x2)), (0, .ref a0), (1, .int x1), (2, .int x2)]) hx hb dX7_fewestTakings_11 hl (by decide) rfl (fun ls hl => ?_)
  exact L_13 100 (m_X7_mostCompleted un x1 x2) (0 : Int32) (0 : Int32) (by decide) (by decide) (by rw [m_X7_fewestTakings]) ls (lv_sub hl [3, 4, 5, 2, 1, 0] rfl)
