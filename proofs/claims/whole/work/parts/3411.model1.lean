def m_X9_whyNotAdvance (r : (Nat → Int32)) (x1 : Int32) (x2 : Int32) (x3 : Int32) : Int32 := if (m_X9_isHolder x1) = (0 : Int32) then (1 : Int32) else if (m_X9_isUnit r x2) = (0 : Int32) then (1 : Int32) else if (m_X9_in x3.toInt64 (1 : Int64) (30 : Int64)) = (0 : Int32) then (2 : Int32) else if x1 = (4 : Int32) then (3 : Int32) else if (r (m_X9_coresAt x1).toNatClampNeg) = (6 : Int32) then (3 : Int32) else if (m_X9_isGood r x2) = (0 : Int32) then (3 : Int32) else (0 : Int32)
theorem hd_X9_whyNotAdvance : yX9_whyNotAdvance.cls = RX9 ∧ yX9_whyNotAdvance.cls ≠ "java/lang/invoke/MethodHandle" ∧ yX9_whyNotAdvance.cls ≠ "java/lang/invoke/VarHandle" ∧ (parseMethodDescriptor yX9_whyNotAdvance.desc).map (fun d => d.parameters.length) = some 4 := by decide +kernel
set_option maxHeartbeats 8000000 in
set_option maxRecDepth 20000 in
theorem c_X9_whyNotAdvance (l : Launch) (D : va_G) (cy : Nat → ClassId) (a0 : Nat) (r : (Nat → Int32)) (x1 : Int32) (x2 : Int32) (x3 : Int32) (hR : rOK r) : RO l D cy yX9_whyNotAdvance wsX9_whyNotAdvance ({ frames := 3, cells := 0, slots := 0, locals := 64 } : Room) (wAr cy a0 r) [.ref a0, .int x1, .int x2, .int x3] (m_X9_whyNotAdvance r x1 x2 x3) := by
  refine RO.body (by decide) rfl (Nat.le_of_ble_eq_true rfl) ?_
  intro p e s m below meth c hx hb hml hr hts hown hlocks hP hG ls hl
  have hl : lv_has ls 4 [(0, .ref a0), (1, .int x1), (2, .int x2), (3, .int x3)] := hl
  have hCF : CallFix p m c cX9_whyNotAdvance 4 s ([.ref a0, .int x1, .int x2, .int x3] : List Value).toArray wsX9_whyNotAdvance RX9 := ⟨hx, hb, hml, hown, hts⟩
  have k_0 := hts (Cond.constantLong RX9 72 (30)) (List.mem_of_getElem? (i := 1) rfl)
  refine lv_iload_n hx hb dX9_whyNotAdvance_0 rfl (lv_at hl 1 rfl) ?_
  refine roS (wc := ([] : va_W)) (As := [.int x1]) (rest := []) (c_X9_isHolder l D cy x1) hCF gX9_whyNotAdvance_X9_isHolder rfl hd_X9_isHolder ⟨rfl, rfl, Nat.le_of_ble_eq_true rfl, Nat.le_of_ble_eq_true rfl⟩ hG va_P_nil rfl hl.1 rfl (Nat.le_of_ble_eq_true rfl) dX9_whyNotAdvance_1 ⟨Nat.le_refl _, Nat.le_refl _⟩ ?_
  refine lv_if_eq (tgt := 15) hx hb dX9_whyNotAdvance_4 (by decide) (fun c_1 => ?_) (fun c_1 => ?_)
  · skip
    refine lv_iconst (v := (1 : Int32)) hx hb dX9_whyNotAdvance_15 (by decide) ?_
    refine lv_goto (tgt := 64) hx hb dX9_whyNotAdvance_16 (by decide) ?_
    exact ro_iret hx hb hr hlocks dX9_whyNotAdvance_64 (by rw [m_X9_whyNotAdvance, if_pos c_1])
  · skip
    refine lv_aload_n hx hb dX9_whyNotAdvance_7 rfl (lv_at hl 0 rfl) ?_
    refine lv_iload_n hx hb dX9_whyNotAdvance_8 rfl (lv_at hl 2 rfl) ?_
    refine roS (wc := (wAr cy a0 r)) (As := [.ref a0, .int x2]) (rest := []) (c_X9_isUnit l D cy a0 r x2) hCF gX9_whyNotAdvance_X9_isUnit rfl hd_X9_isUnit ⟨rfl, rfl, Nat.le_of_ble_eq_true rfl, Nat.le_of_ble_eq_true rfl⟩ hG hP rfl hl.1 rfl (Nat.le_of_ble_eq_true rfl) dX9_whyNotAdvance_9 ⟨Nat.le_refl _, Nat.le_refl _⟩ ?_
    refine lv_if_ne (tgt := 19) hx hb dX9_whyNotAdvance_12 (by decide) (fun c_2 => ?_) (fun c_2 => ?_)
    · skip
      refine lv_iload_n hx hb dX9_whyNotAdvance_19 rfl (lv_at hl 3 rfl) ?_
      refine lv_i2l hx hb dX9_whyNotAdvance_20 rfl ?_
      refine lv_lconst (v := (1 : Int64)) hx hb dX9_whyNotAdvance_21 (by decide) ?_
      refine lv_ldc2 (v := (30 : Int64)) hx hb hown k_0 dX9_whyNotAdvance_22 ?_
      refine roS (wc := ([] : va_W)) (As := [.long x3.toInt64, .long (1 : Int64), .long (30 : Int64)]) (rest := []) (c_X9_in l D cy x3.toInt64 (1 : Int64) (30 : Int64)) hCF gX9_whyNotAdvance_X9_in rfl hd_X9_in ⟨rfl, rfl, Nat.le_of_ble_eq_true rfl, Nat.le_of_ble_eq_true rfl⟩ hG va_P_nil rfl hl.1 rfl (Nat.le_of_ble_eq_true rfl) dX9_whyNotAdvance_25 ⟨Nat.le_refl _, Nat.le_refl _⟩ ?_
      refine lv_if_ne (tgt := 35) hx hb dX9_whyNotAdvance_28 (by decide) (fun c_3 => ?_) (fun c_3 => ?_)
      · skip
        refine lv_iload_n hx hb dX9_whyNotAdvance_35 rfl (lv_at hl 1 rfl) ?_
        refine lv_iconst (v := (4 : Int32)) hx hb dX9_whyNotAdvance_36 (by decide) ?_
        refine lv_icmp_eq (tgt := 59) hx hb dX9_whyNotAdvance_37 (by decide) (fun c_4 => ?_) (fun c_4 => ?_)
        · skip
          refine lv_iconst (v := (3 : Int32)) hx hb dX9_whyNotAdvance_59 (by decide) ?_
          refine lv_goto (tgt := 64) hx hb dX9_whyNotAdvance_60 (by decide) ?_
          exact ro_iret hx hb hr hlocks dX9_whyNotAdvance_64 (by rw [m_X9_whyNotAdvance, if_neg c_1, if_neg c_2, if_neg c_3, if_pos c_4])
        · skip
          refine lv_aload_n hx hb dX9_whyNotAdvance_40 rfl (lv_at hl 0 rfl) ?_
          refine lv_iload_n hx hb dX9_whyNotAdvance_41 rfl (lv_at hl 1 rfl) ?_
          refine roS (wc := ([] : va_W)) (As := [.int x1]) (rest := [.ref a0]) (c_X9_coresAt l D cy x1) hCF gX9_whyNotAdvance_X9_coresAt rfl hd_X9_coresAt ⟨rfl, rfl, Nat.le_of_ble_eq_true rfl, Nat.le_of_ble_eq_true rfl⟩ hG va_P_nil rfl hl.1 rfl (Nat.le_of_ble_eq_true rfl) dX9_whyNotAdvance_42 ⟨Nat.le_refl _, Nat.le_refl _⟩ ?_
          refine va_iald hx hb hG.1 hP 0 0 (n := 383) (f := r) g_Ar_0 rfl (iv_in (iv_coresAt (iv_isHolder c_1)) (by decide) (by decide)) dX9_whyNotAdvance_45 ?_
          refine lv_bipush (v := (6 : Int32)) hx hb dX9_whyNotAdvance_46 (by decide) ?_
          refine lv_icmp_eq (tgt := 59) hx hb dX9_whyNotAdvance_48 (by decide) (fun c_5 => ?_) (fun c_5 => ?_)
          · skip
            refine lv_iconst (v := (3 : Int32)) hx hb dX9_whyNotAdvance_59 (by decide) ?_
            refine lv_goto (tgt := 64) hx hb dX9_whyNotAdvance_60 (by decide) ?_
            exact ro_iret hx hb hr hlocks dX9_whyNotAdvance_64 (by rw [m_X9_whyNotAdvance, if_neg c_1, if_neg c_2, if_neg c_3, if_neg c_4, if_pos c_5])
          · skip
            refine lv_aload_n hx hb dX9_whyNotAdvance_51 rfl (lv_at hl 0 rfl) ?_
            refine lv_iload_n hx hb dX9_whyNotAdvance_52 rfl (lv_at hl 2 rfl) ?_
            refine roS (wc := (wAr cy a0 r)) (As := [.ref a0, .int x2]) (rest := []) (c_X9_isGood l D cy a0 r x2 (iv_isUnit hR c_2)) hCF gX9_whyNotAdvance_X9_isGood rfl hd_X9_isGood ⟨rfl, rfl, Nat.le_of_ble_eq_true rfl, Nat.le_of_ble_eq_true rfl⟩ hG hP rfl hl.1 rfl (Nat.le_of_ble_eq_true rfl) dX9_whyNotAdvance_53 ⟨Nat.le_refl _, Nat.le_refl _⟩ ?_
            refine lv_if_ne (tgt := 63) hx hb dX9_whyNotAdvance_56 (by decide) (fun c_6 => ?_) (fun c_6 => ?_)
            · skip
              refine lv_iconst (v := (0 : Int32)) hx hb dX9_whyNotAdvance_63 (by decide) ?_
              exact ro_iret hx hb hr hlocks dX9_whyNotAdvance_64 (by rw [m_X9_whyNotAdvance, if_neg c_1, if_neg c_2, if_neg c_3, if_neg c_4, if_neg c_5, if_neg c_6])
            · skip
              refine lv_iconst (v := (3 : Int32)) hx hb dX9_whyNotAdvance_59 (by decide) ?_
              refine lv_goto (tgt := 64) hx hb dX9_whyNotAdvance_60 (by decide) ?_
              exact ro_iret hx hb hr hlocks dX9_whyNotAdvance_64 (by rw [m_X9_whyNotAdvance, if_neg c_1, if_neg c_2, if_neg c_3, if_neg c_4, if_neg c_5, if_pos c_6])
      · skip
        refine lv_iconst (v := (2 : Int32)) hx hb dX9_whyNotAdvance_31 (by decide) ?_
        refine lv_goto (tgt := 64) hx hb dX9_whyNotAdvance_32 (by decide) ?_
        exact ro_iret hx hb hr hlocks dX9_whyNotAdvance_64 (by rw [m_X9_whyNotAdvance, if_neg c_1, if_neg c_2, if_pos c_3])
    · skip
      refine lv_iconst (v := (1 : Int32)) hx hb dX9_whyNotAdvance_15 (by decide) ?_
      refine lv_goto (tgt := 64) hx hb dX9_whyNotAdvance_16 (by decide) ?_
      exact ro_iret hx hb hr hlocks dX9_whyNotAdvance_64 (by rw [m_X9_whyNotAdvance, if_neg c_1, if_pos c_2])
theorem wn_nn_Advance (r : Nat → Int32) (x1 x2 x3 : Int32) : 0 ≤ (m_X9_whyNotAdvance r x1 x2 x3).toInt := by
  unfold m_X9_whyNotAdvance
  repeat' split
  all_goals decide
theorem wn_Advance_0 {r : Nat → Int32} {x1 x2 x3 : Int32} (hR : rOK r) (c : m_X9_whyNotAdvance r x1 x2 x3 = 0) : iv 0 4 x1 := by
  unfold m_X9_whyNotAdvance at c
  split at c
  · exact absurd c (by decide)
  rename_i h0
  exact iv_isHolder h0
theorem wn_Advance_1 {r : Nat → Int32} {x1 x2 x3 : Int32} (hR : rOK r) (c : m_X9_whyNotAdvance r x1 x2 x3 = 0) : iv 0 15 x2 := by
  unfold m_X9_whyNotAdvance at c
  split at c
  · exact absurd c (by decide)
  rename_i h0
  split at c
  · exact absurd c (by decide)
  rename_i h1
  exact iv_isUnit hR h1
theorem wn_Adv_n {r : Nat → Int32} {x1 x2 x3 : Int32} (hR : rOK r) (c : m_X9_whyNotAdvance r x1 x2 x3 = 0) : iv 0 5 (r (m_X9_coresAt x1).toNatClampNeg) := by
  have hh := wn_Advance_0 hR c
  unfold m_X9_whyNotAdvance at c
  split at c
  · exact absurd c (by decide)
  split at c
  · exact absurd c (by decide)
  split at c
  · exact absurd c (by decide)
  split at c
  · exact absurd c (by decide)
  split at c
  · exact absurd c (by decide)
  rename_i h4
  have h1 := rk_cores hR hh
  have h5 : ¬ (r (m_X9_coresAt x1).toNatClampNeg).toInt = 6 := fun q => h4 (Int32.toInt_inj.mp (by rw [q]; decide))
  exact ⟨h1.1, by have := h1.2; omega⟩
def m_X9_oldest_L8 : Nat → (Nat → Int32) → Int32 → Int32 → Int32 → Int32
  | 0, _, _, _, _ => (-1 : Int32)
  | nF + 1, r, x1, x2, n => if (r (m_X9_coresAt x1).toNatClampNeg) ≤ n then (-1 : Int32) else if (r (((m_X9_coresAt x1) + (1 : Int32)) + ((2 : Int32) * n)).toNatClampNeg) = x2 then n else m_X9_oldest_L8 nF r x1 x2 (n + (1 : Int32))
def m_X9_oldest (r : (Nat → Int32)) (x1 : Int32) (x2 : Int32) : Int32 := m_X9_oldest_L8 100 r x1 x2 (0 : Int32)
theorem hd_X9_oldest : yX9_oldest.cls = RX9 ∧ yX9_oldest.cls ≠ "java/lang/invoke/MethodHandle" ∧ yX9_oldest.cls ≠ "java/lang/invoke/VarHandle" ∧ (parseMethodDescriptor yX9_oldest.desc).map (fun d => d.parameters.length) = some 3 := by decide +kernel
set_option maxHeartbeats 8000000 in
set_option maxRecDepth 20000 in
theorem c_X9_oldest (l : Launch) (D : va_G) (cy : Nat → ClassId) (a0 : Nat) (r : (Nat → Int32)) (x1 : Int32) (x2 : Int32) (hR : rOK r) (h_x1 : iv 0 4 x1) : RO l D cy yX9_oldest wsX9_oldest ({ frames := 1, cells := 0, slots := 0, locals := 20 } : Room) (wAr cy a0 r) [.ref a0, .int x1, .int x2] (m_X9_oldest r x1 x2) := by
  refine RO.body (by decide) rfl (Nat.le_of_ble_eq_true rfl) ?_
  intro p e s m below meth c hx hb hml hr hts hown hlocks hP hG ls hl
  have hl : lv_has ls 5 [(0, .ref a0), (1, .int x1), (2, .int x2)] := hl
  have hCF : CallFix p m c cX9_oldest 5 s ([.ref a0, .int x1, .int x2] : List Value).toArray wsX9_oldest RX9 := ⟨hx, hb, hml, hown, hts⟩
  have L_8 : ∀ (nF : Nat) (n : Int32), 0 ≤ n.toInt → ((r (m_X9_coresAt x1).toNatClampNeg).toInt - n.toInt).toNat < nF → m_X9_oldest_L8 nF r x1 x2 n = (m_X9_oldest r x1 x2) → ∀ ls : Array Slot, lv_has ls 5 [(0, .ref a0), (1, .int x1), (2, .int x2), (3, .int (m_X9_coresAt x1)), (4, .int n)] → W p l e ({ frames := 1, cells := 0, slots := 0, locals := 20 } : Room) s m ([.ref a0, .int x1, .int x2] : List Value).toArray below meth c s.heap [] 0 0 (MQ below (vp_Si (fun v_ => v_ = (m_X9_oldest r x1 x2))) ([.ref a0, .int x1, .int x2] : List Value).toArray s 0 0 (fun _ => False)) (F0 m 8 ls []) := by
    intro nF
    induction nF with
    | zero => intro n h0 hm; exact absurd hm (Nat.not_lt_zero _)
    | succ nF ih =>
      intro n h0 hm hQ ls hl
      refine lv_iload hx hb dX9_oldest_8 (lv_at hl 4 rfl) ?_
      refine lv_aload_n hx hb dX9_oldest_10 rfl (lv_at hl 0 rfl) ?_
      refine lv_iload_n hx hb dX9_oldest_11 rfl (lv_at hl 3 rfl) ?_
      refine va_iald hx hb hG.1 hP 0 0 (n := 383) (f := r) g_Ar_0 rfl (iv_in (iv_coresAt h_x1) (by decide) (by decide)) dX9_oldest_12 ?_
      refine lv_icmp_ge (tgt := 39) hx hb dX9_oldest_13 (by decide) (fun c_1 => ?_) (fun c_1 => ?_)
      · skip
        refine lv_iconst (v := (-1 : Int32)) hx hb dX9_oldest_39 (by decide) ?_
        exact ro_iret hx hb hr hlocks dX9_oldest_40 (by rw [← hQ, m_X9_oldest_L8, if_pos c_1])
      · skip
        refine lv_aload_n hx hb dX9_oldest_16 rfl (lv_at hl 0 rfl) ?_
        refine lv_iload_n hx hb dX9_oldest_17 rfl (lv_at hl 3 rfl) ?_
        refine lv_iconst (v := (1 : Int32)) hx hb dX9_oldest_18 (by decide) ?_
        refine lv_iadd hx hb dX9_oldest_19 ?_
        refine lv_iconst (v := (2 : Int32)) hx hb dX9_oldest_20 (by decide) ?_
        refine lv_iload hx hb dX9_oldest_21 (lv_at hl 4 rfl) ?_
        refine lv_imul hx hb dX9_oldest_23 ?_
        refine lv_iadd hx hb dX9_oldest_24 ?_
        refine va_iald hx hb hG.1 hP 0 0 (n := 383) (f := r) g_Ar_0 rfl (iv_in (iv_add (l := 319) (h := 381) (iv_add (l := 319) (h := 371) (iv_coresAt h_x1) (iv_lit (v := 1) (by decide)) (by decide)) (iv_mul (l := 0) (h := 10) (iv_lit (v := 2) (by decide)) (iv_loop (M := 6) (h := 5) h0 c_1 ((rk_cores hR h_x1).2) (by decide)) (by decide)) (by decide)) (by decide) (by decide)) dX9_oldest_25 ?_
        refine lv_iload_n hx hb dX9_oldest_26 rfl (lv_at hl 2 rfl) ?_
        refine lv_icmp_ne (tgt := 33) hx hb dX9_oldest_27 (by decide) (fun c_2 => ?_) (fun c_2 => ?_)
        · skip
          refine lv_iinc (v := (n + (1 : Int32))) (lv' := [(4, .int (n + (1 : Int32))), (0, .ref a0), (1, .int x1), (2, .int x2), (3, .int (m_X9_coresAt x1))]) hx hb dX9_oldest_33 hl (k := 4) rfl rfl (by decide) rfl (fun ls hl => ?_)
          refine lv_goto (tgt := 8) hx hb dX9_oldest_36 (by decide) ?_
          exact ih  (n + (1 : Int32)) (lp_up h0 c_1) (lp_dec h0 c_1 hm) (by rw [← hQ, m_X9_oldest_L8, if_neg c_1, if_neg c_2]) ls (lv_sub hl [1, 2, 3, 4, 0] rfl)
        · skip
          refine lv_iload hx hb dX9_oldest_30 (lv_at hl 4 rfl) ?_
          exact ro_iret hx hb hr hlocks dX9_oldest_32 (by rw [← hQ, m_X9_oldest_L8, if_neg c_1, if_pos c_2])
  refine lv_iload_n hx hb dX9_oldest_0 rfl (lv_at hl 1 rfl) ?_
  refine roS (wc := ([] : va_W)) (As := [.int x1]) (rest := []) (c_X9_coresAt l D cy x1) hCF gX9_oldest_X9_coresAt rfl hd_X9_coresAt ⟨rfl, rfl, Nat.le_of_ble_eq_true rfl, Nat.le_of_ble_eq_true rfl⟩ hG va_P_nil rfl hl.1 rfl (Nat.le_of_ble_eq_true rfl) dX9_oldest_1 ⟨Nat.le_refl _, Nat.le_refl _⟩ ?_
  refine lv_istore_n (lv' := [(3, .int (m_X9_coresAt x1)), (0, .ref a0), (1, .int x1), (2, .int x2)]) hx hb dX9_oldest_4 rfl hl (by decide) rfl (fun ls hl => ?_)
  refine lv_iconst (v := (0 : Int32)) hx hb dX9_oldest_5 (by decide) ?_
  refine lv_istore (lv' := [(4, .int (0 : Int32)), (3, .int (m_X9_coresAt x1)), (0, .ref a0), (1, .int x1), (2, .int x2)]) hx hb dX9_oldest_6 hl (by decide) rfl (fun ls hl => ?_)
  exact L_8 100 (0 : Int32) (by decide) (lp_init (M := 6) (rk_cores hR h_x1).2 (by decide)) (by rw [m_X9_oldest]) ls (lv_sub hl [2, 3, 4, 1, 0] rfl)
theorem ol_spec {r : Nat → Int32} {x1 x2 : Int32} (hB : (r (m_X9_coresAt x1).toNatClampNeg).toInt ≤ 6) : ∀ (nF : Nat) (n : Int32), 0 ≤ n.toInt → m_X9_oldest_L8 nF r x1 x2 n = -1 ∨ (0 ≤ (m_X9_oldest_L8 nF r x1 x2 n).toInt ∧ (m_X9_oldest_L8 nF r x1 x2 n).toInt < (r (m_X9_coresAt x1).toNatClampNeg).toInt) := by
  intro nF
  induction nF with
  | zero => intro n _; exact Or.inl rfl
  | succ nF ih =>
    intro n h0
    rw [m_X9_oldest_L8]
    split
    · exact Or.inl rfl
    · rename_i h1
      split
      · rw [i32_le] at h1; exact Or.inr ⟨h0, by omega⟩
      · exact ih _ (lp_up h0 h1)
theorem oldest_lt {r : Nat → Int32} {x1 x2 : Int32} (hR : rOK r) (hh : iv 0 4 x1) (ho : ¬ m_X9_oldest r x1 x2 = -1) : 0 ≤ (m_X9_oldest r x1 x2).toInt ∧ (m_X9_oldest r x1 x2).toInt < (r (m_X9_coresAt x1).toNatClampNeg).toInt := by
  have h := ol_spec (x2 := x2) (rk_cores hR hh).2 100 0 (by decide)
  unfold m_X9_oldest at ho ⊢
  exact h.resolve_left ho
theorem oldest_rng {r : Nat → Int32} {x1 x2 : Int32} (hR : rOK r) (hh : iv 0 4 x1) (ho : ¬ m_X9_oldest r x1 x2 = -1) : iv 0 5 (m_X9_oldest r x1 x2) := by
  have h := oldest_lt hR hh ho
  have := (rk_cores hR hh).2
  exact ⟨h.1, by omega⟩
theorem oldest_cnt {r : Nat → Int32} {x1 x2 : Int32} (hR : rOK r) (hh : iv 0 4 x1) (ho : ¬ m_X9_oldest r x1 x2 = -1) : iv 1 6 (r (m_X9_coresAt x1).toNatClampNeg) := by
  have h := oldest_lt hR hh ho
  have := (rk_cores hR hh).2
  exact ⟨by omega, this⟩
theorem dl_hj {K x : Int32} (hK : iv 318 370 K) (hx : iv 0 5 x) : K.toInt + 1 ≤ (K + 1 + 2 * x).toInt := by
  have a1 := hK.1
  have a2 := hK.2
  have b1 := hx.1
  have b2 := hx.2
  have e2 : (2 : Int32).toInt = 2 := by decide
  have c1 : (K + 1).toInt = K.toInt + 1 := by rw [i32_add (by rw [i32_1]; omega) (by rw [i32_1]; omega), i32_1]
  have c2 : ((2 : Int32) * x).toInt = 2 * x.toInt := by rw [i32_mul (by rw [e2]; omega) (by rw [e2]; omega), e2]
  rw [i32_add (by rw [c1, c2]; omega) (by rw [c1, c2]; omega), c1, c2]
  omega
theorem dl_top {K x : Int32} (hK : iv 318 370 K) (hx : iv 0 5 x) : (K + 1 + 2 * x).toInt ≤ 381 :=
  (iv_add (l := 319) (h := 381) (iv_add (l := 319) (h := 371) hK (iv_lit (v := 1) (by decide)) (by decide)) (iv_mul (l := 0) (h := 10) (iv_lit (v := 2) (by decide)) hx (by decide)) (by decide)).2
theorem dl_i {K x i : Int32} (hK : iv 318 370 K) (hx : iv 0 5 x) (hi : K.toInt + 1 ≤ i.toInt) (c : ¬ K + 1 + 2 * x ≤ i) : iv 319 380 i := by
  have h := dl_top hK hx
  have := hK.1
  rw [i32_le] at c
  exact ⟨by omega, by omega⟩
theorem dl_ne {f : Nat → Int32} {K j v : Int32} (h : iv 0 5 (f K.toNatClampNeg)) (hK : iv 318 370 K) (hj : K.toInt + 1 ≤ j.toInt) : iv 0 5 (upd f j.toNatClampNeg v K.toNatClampNeg) := by
  have := hK.1
  have e1 : K.toNatClampNeg = K.toInt.toNat := rfl
  have e2 : j.toNatClampNeg = j.toInt.toNat := rfl
  rw [pk_un (by omega)]
  exact h
theorem dl_m {K i : Int32} (hK : iv 318 370 K) (hi : K.toInt + 1 ≤ i.toInt) : ((383 : Int32).toInt - i.toInt).toNat < 1000 := by
  have : (383 : Int32).toInt = 383 := by decide
  have := hK.1
  omega
theorem dl_up {K i : Int32} (h : iv 319 380 i) (hi : K.toInt + 1 ≤ i.toInt) : K.toInt + 1 ≤ (i + 1).toInt := by
  have := h.1
  have := h.2
  rw [i32_add (by rw [i32_1]; omega) (by rw [i32_1]; omega), i32_1]
  omega
theorem dl_dec {i : Int32} {n : Nat} (h : iv 319 380 i) (hm : ((383 : Int32).toInt - i.toInt).toNat < n + 1) : ((383 : Int32).toInt - (i + 1).toInt).toNat < n := by
  have : (383 : Int32).toInt = 383 := by decide
  have := h.1
  have := h.2
  rw [i32_add (by rw [i32_1]; omega) (by rw [i32_1]; omega), i32_1]
  omega
def m_X9_whyNotDeliver (r : (Nat → Int32)) (x1 : Int32) : Int32 := if (m_X9_isUnit r x1) = (0 : Int32) then (1 : Int32) else if (m_X9_isCore r x1) = (0 : Int32) then (2 : Int32) else if (m_X9_oldest r (m_X9_of r x1 (1 : Int32)) (m_X9_of r x1 (0 : Int32))) = (-1 : Int32) then (2 : Int32) else (0 : Int32)
theorem hd_X9_whyNotDeliver : yX9_whyNotDeliver.cls = RX9 ∧ yX9_whyNotDeliver.cls ≠ "java/lang/invoke/MethodHandle" ∧ yX9_whyNotDeliver.cls ≠ "java/lang/invoke/VarHandle" ∧ (parseMethodDescriptor yX9_whyNotDeliver.desc).map (fun d => d.parameters.length) = some 2 := by decide +kernel
set_option maxHeartbeats 8000000 in
set_option maxRecDepth 20000 in
theorem c_X9_whyNotDeliver (l : Launch) (D : va_G) (cy : Nat → ClassId) (a0 : Nat) (r : (Nat → Int32)) (x1 : Int32) (hR : rOK r) : RO l D cy yX9_whyNotDeliver wsX9_whyNotDeliver ({ frames := 3, cells := 0, slots := 0, locals := 64 } : Room) (wAr cy a0 r) [.ref a0, .int x1] (m_X9_whyNotDeliver r x1) := by
  refine RO.body (by decide) rfl (Nat.le_of_ble_eq_true rfl) ?_
  intro p e s m below meth c hx hb hml hr hts hown hlocks hP hG ls hl
  have hl : lv_has ls 2 [(0, .ref a0), (1, .int x1)] := hl
  have hCF : CallFix p m c cX9_whyNotDeliver 2 s ([.ref a0, .int x1] : List Value).toArray wsX9_whyNotDeliver RX9 := ⟨hx, hb, hml, hown, hts⟩
  refine lv_aload_n hx hb dX9_whyNotDeliver_0 rfl (lv_at hl 0 rfl) ?_
  refine lv_iload_n hx hb dX9_whyNotDeliver_1 rfl (lv_at hl 1 rfl) ?_
  refine roS (wc := (wAr cy a0 r)) (As := [.ref a0, .int x1]) (rest := []) (c_X9_isUnit l D cy a0 r x1) hCF gX9_whyNotDeliver_X9_isUnit rfl hd_X9_isUnit ⟨rfl, rfl, Nat.le_of_ble_eq_true rfl, Nat.le_of_ble_eq_true rfl⟩ hG hP rfl hl.1 rfl (Nat.le_of_ble_eq_true rfl) dX9_whyNotDeliver_2 ⟨Nat.le_refl _, Nat.le_refl _⟩ ?_
  refine lv_if_ne (tgt := 12) hx hb dX9_whyNotDeliver_5 (by decide) (fun c_1 => ?_) (fun c_1 => ?_)
  · skip
    refine lv_aload_n hx hb dX9_whyNotDeliver_12 rfl (lv_at hl 0 rfl) ?_
    refine lv_iload_n hx hb dX9_whyNotDeliver_13 rfl (lv_at hl 1 rfl) ?_
    refine roS (wc := (wAr cy a0 r)) (As := [.ref a0, .int x1]) (rest := []) (c_X9_isCore l D cy a0 r x1 (iv_isUnit hR c_1)) hCF gX9_whyNotDeliver_X9_isCore rfl hd_X9_isCore ⟨rfl, rfl, Nat.le_of_ble_eq_true rfl, Nat.le_of_ble_eq_true rfl⟩ hG hP rfl hl.1 rfl (Nat.le_of_ble_eq_true rfl) dX9_whyNotDeliver_14 ⟨Nat.le_refl _, Nat.le_refl _⟩ ?_
    refine lv_if_eq (tgt := 40) hx hb dX9_whyNotDeliver_17 (by decide) (fun c_2 => ?_) (fun c_2 => ?_)
    · skip
      refine lv_iconst (v := (2 : Int32)) hx hb dX9_whyNotDeliver_40 (by decide) ?_
      refine lv_goto (tgt := 45) hx hb dX9_whyNotDeliver_41 (by decide) ?_
      exact ro_iret hx hb hr hlocks dX9_whyNotDeliver_45 (by rw [m_X9_whyNotDeliver, if_neg c_1, if_pos c_2])
    · skip
      refine lv_aload_n hx hb dX9_whyNotDeliver_20 rfl (lv_at hl 0 rfl) ?_
      refine lv_aload_n hx hb dX9_whyNotDeliver_21 rfl (lv_at hl 0 rfl) ?_
      refine lv_iload_n hx hb dX9_whyNotDeliver_22 rfl (lv_at hl 1 rfl) ?_
      refine lv_iconst (v := (1 : Int32)) hx hb dX9_whyNotDeliver_23 (by decide) ?_
      refine roS (wc := (wAr cy a0 r)) (As := [.ref a0, .int x1, .int (1 : Int32)]) (rest := [.ref a0]) (c_X9_of l D cy a0 r x1 (1 : Int32) (iv_isUnit hR c_1) (iv_wide (l2 := 0) (h2 := 4) (iv_lit (v := 1) (by decide)) (by decide))) hCF gX9_whyNotDeliver_X9_of rfl hd_X9_of ⟨rfl, rfl, Nat.le_of_ble_eq_true rfl, Nat.le_of_ble_eq_true rfl⟩ hG hP rfl hl.1 rfl (Nat.le_of_ble_eq_true rfl) dX9_whyNotDeliver_24 ⟨Nat.le_refl _, Nat.le_refl _⟩ ?_
      refine lv_aload_n hx hb dX9_whyNotDeliver_27 rfl (lv_at hl 0 rfl) ?_
      refine lv_iload_n hx hb dX9_whyNotDeliver_28 rfl (lv_at hl 1 rfl) ?_
      refine lv_iconst (v := (0 : Int32)) hx hb dX9_whyNotDeliver_29 (by decide) ?_
      refine roS (wc := (wAr cy a0 r)) (As := [.ref a0, .int x1, .int (0 : Int32)]) (rest := [.int (m_X9_of r x1 (1 : Int32)), .ref a0]) (c_X9_of l D cy a0 r x1 (0 : Int32) (iv_isUnit hR c_1) (iv_wide (l2 := 0) (h2 := 4) (iv_lit (v := 0) (by decide)) (by decide))) hCF gX9_whyNotDeliver_X9_of rfl hd_X9_of ⟨rfl, rfl, Nat.le_of_ble_eq_true rfl, Nat.le_of_ble_eq_true rfl⟩ hG hP rfl hl.1 rfl (Nat.le_of_ble_eq_true rfl) dX9_whyNotDeliver_30 ⟨Nat.le_refl _, Nat.le_refl _⟩ ?_
      refine roS (wc := (wAr cy a0 r)) (As := [.ref a0, .int (m_X9_of r x1 (1 : Int32)), .int (m_X9_of r x1 (0 : Int32))]) (rest := []) (c_X9_oldest l D cy a0 r (m_X9_of r x1 (1 : Int32)) (m_X9_of r x1 (0 : Int32)) hR (rk_of1 hR (iv_isUnit hR c_1))) hCF gX9_whyNotDeliver_X9_oldest rfl hd_X9_oldest ⟨rfl, rfl, Nat.le_of_ble_eq_true rfl, Nat.le_of_ble_eq_true rfl⟩ hG hP rfl hl.1 rfl (Nat.le_of_ble_eq_true rfl) dX9_whyNotDeliver_33 ⟨Nat.le_refl _, Nat.le_refl _⟩ ?_
      refine lv_iconst (v := (-1 : Int32)) hx hb dX9_whyNotDeliver_36 (by decide) ?_
      refine lv_icmp_ne (tgt := 44) hx hb dX9_whyNotDeliver_37 (by decide) (fun c_3 => ?_) (fun c_3 => ?_)
      · skip
        refine lv_iconst (v := (0 : Int32)) hx hb dX9_whyNotDeliver_44 (by decide) ?_
        exact ro_iret hx hb hr hlocks dX9_whyNotDeliver_45 (by rw [m_X9_whyNotDeliver, if_neg c_1, if_neg c_2, if_neg c_3])
      · skip
        refine lv_iconst (v := (2 : Int32)) hx hb dX9_whyNotDeliver_40 (by decide) ?_
        refine lv_goto (tgt := 45) hx hb dX9_whyNotDeliver_41 (by decide) ?_
        exact ro_iret hx hb hr hlocks dX9_whyNotDeliver_45 (by rw [m_X9_whyNotDeliver, if_neg c_1, if_neg c_2, if_pos c_3])
  · skip
    refine lv_iconst (v := (1 : Int32)) hx hb dX9_whyNotDeliver_8 (by decide) ?_
    refine lv_goto (tgt := 45) hx hb dX9_whyNotDeliver_9 (by decide) ?_
    exact ro_iret hx hb hr hlocks dX9_whyNotDeliver_45 (by rw [m_X9_whyNotDeliver, if_pos c_1])
theorem wn_nn_Deliver (r : Nat → Int32) (x1 : Int32) : 0 ≤ (m_X9_whyNotDeliver r x1).toInt := by
  unfold m_X9_whyNotDeliver
  repeat' split
  all_goals decide
theorem wn_Deliver_0 {r : Nat → Int32} {x1 : Int32} (hR : rOK r) (c : m_X9_whyNotDeliver r x1 = 0) : iv 0 15 x1 := by
  unfold m_X9_whyNotDeliver at c
  split at c
  · exact absurd c (by decide)
  rename_i h0
  exact iv_isUnit hR h0
theorem iv_or7 {a p : Int32} (ha : iv 0 7 a) (hp : iv 0 2 p) : iv 0 7 (a ||| 1 <<< (p &&& 31)) := by
  obtain ⟨i, hi, rfl⟩ := nI_of2 (n := 7) (M := 7) (by decide) (x := a) (by rw [i32_lt, i32_0]; have := ha.1; omega) (by rw [i32_le]; have := ha.2; have : (7 : Int32).toInt = 7 := (by decide); omega)
  obtain ⟨j, hj, rfl⟩ := nI_of2 (n := 2) (M := 2) (by decide) (x := p) (by rw [i32_lt, i32_0]; have := hp.1; omega) (by rw [i32_le]; have := hp.2; have : (2 : Int32).toInt = 2 := (by decide); omega)
  have key : ∀ i : Nat, i ≤ 7 → ∀ j : Nat, j ≤ 2 → 0 ≤ (nI i ||| 1 <<< (nI j &&& 31)).toInt ∧ (nI i ||| 1 <<< (nI j &&& 31)).toInt ≤ 7 := by decide +kernel
  exact key i hi j hj
theorem iv_xor7 {a p : Int32} (ha : iv 0 7 a) (hp : iv 0 2 p) : iv 0 7 (a ^^^ 1 <<< (p &&& 31)) := by
  obtain ⟨i, hi, rfl⟩ := nI_of2 (n := 7) (M := 7) (by decide) (x := a) (by rw [i32_lt, i32_0]; have := ha.1; omega) (by rw [i32_le]; have := ha.2; have : (7 : Int32).toInt = 7 := (by decide); omega)
  obtain ⟨j, hj, rfl⟩ := nI_of2 (n := 2) (M := 2) (by decide) (x := p) (by rw [i32_lt, i32_0]; have := hp.1; omega) (by rw [i32_le]; have := hp.2; have : (2 : Int32).toInt = 2 := (by decide); omega)
  have key : ∀ i : Nat, i ≤ 7 → ∀ j : Nat, j ≤ 2 → 0 ≤ (nI i ^^^ 1 <<< (nI j &&& 31)).toInt ∧ (nI i ^^^ 1 <<< (nI j &&& 31)).toInt ≤ 7 := by decide +kernel
  exact key i hi j hj
theorem wn_Del_o {r : Nat → Int32} {x1 : Int32} (c : m_X9_whyNotDeliver r x1 = 0) : ¬ m_X9_oldest r (m_X9_of r x1 1) (m_X9_of r x1 0) = -1 := by
  unfold m_X9_whyNotDeliver at c
  split at c
  · exact absurd c (by decide)
  split at c
  · exact absurd c (by decide)
  split at c
  · exact absurd c (by decide)
  rename_i h
  exact h
def m_X9_whyNotTake (r : (Nat → Int32)) (x1 : Int32) (x2 : Int32) (x3 : Int32) : Int32 := if (m_X9_isUnit r x1) = (0 : Int32) then (1 : Int32) else if (m_X9_isUnit r x2) = (0 : Int32) then (1 : Int32) else if (m_X9_isPart x3) = (0 : Int32) then (1 : Int32) else if (m_X9_of r x1 (0 : Int32)) = (m_X9_of r x2 (0 : Int32)) then if (m_X9_of r x1 (2 : Int32)) = (m_X9_of r x2 (2 : Int32)) then if (((m_X9_of r x1 (3 : Int32)) >>> (x3 &&& (31 : Int32))) &&& (1 : Int32)) = (1 : Int32) then if (((m_X9_of r x2 (3 : Int32)) >>> (x3 &&& (31 : Int32))) &&& (1 : Int32)) = (0 : Int32) then (0 : Int32) else (2 : Int32) else (2 : Int32) else (2 : Int32) else (2 : Int32)
theorem hd_X9_whyNotTake : yX9_whyNotTake.cls = RX9 ∧ yX9_whyNotTake.cls ≠ "java/lang/invoke/MethodHandle" ∧ yX9_whyNotTake.cls ≠ "java/lang/invoke/VarHandle" ∧ (parseMethodDescriptor yX9_whyNotTake.desc).map (fun d => d.parameters.length) = some 4 := by decide +kernel
set_option maxHeartbeats 8000000 in
set_option maxRecDepth 20000 in
theorem c_X9_whyNotTake (l : Launch) (D : va_G) (cy : Nat → ClassId) (a0 : Nat) (r : (Nat → Int32)) (x1 : Int32) (x2 : Int32) (x3 : Int32) (hR : rOK r) : RO l D cy yX9_whyNotTake wsX9_whyNotTake ({ frames := 2, cells := 0, slots := 0, locals := 46 } : Room) (wAr cy a0 r) [.ref a0, .int x1, .int x2, .int x3] (m_X9_whyNotTake r x1 x2 x3) := by
  refine RO.body (by decide) rfl (Nat.le_of_ble_eq_true rfl) ?_
  intro p e s m below meth c hx hb hml hr hts hown hlocks hP hG ls hl
  have hl : lv_has ls 5 [(0, .ref a0), (1, .int x1), (2, .int x2), (3, .int x3)] := hl
  have hCF : CallFix p m c cX9_whyNotTake 5 s ([.ref a0, .int x1, .int x2, .int x3] : List Value).toArray wsX9_whyNotTake RX9 := ⟨hx, hb, hml, hown, hts⟩
  refine lv_aload_n hx hb dX9_whyNotTake_0 rfl (lv_at hl 0 rfl) ?_
  refine lv_iload_n hx hb dX9_whyNotTake_1 rfl (lv_at hl 1 rfl) ?_
  refine roS (wc := (wAr cy a0 r)) (As := [.ref a0, .int x1]) (rest := []) (c_X9_isUnit l D cy a0 r x1) hCF gX9_whyNotTake_X9_isUnit rfl hd_X9_isUnit ⟨rfl, rfl, Nat.le_of_ble_eq_true rfl, Nat.le_of_ble_eq_true rfl⟩ hG hP rfl hl.1 rfl (Nat.le_of_ble_eq_true rfl) dX9_whyNotTake_2 ⟨Nat.le_refl _, Nat.le_refl _⟩ ?_
  refine lv_if_eq (tgt := 23) hx hb dX9_whyNotTake_5 (by decide) (fun c_1 => ?_) (fun c_1 => ?_)
  · skip
    refine lv_iconst (v := (1 : Int32)) hx hb dX9_whyNotTake_23 (by decide) ?_
    exact ro_iret hx hb hr hlocks dX9_whyNotTake_24 (by rw [m_X9_whyNotTake, if_pos c_1])
  · skip
    refine lv_aload_n hx hb dX9_whyNotTake_8 rfl (lv_at hl 0 rfl) ?_
    refine lv_iload_n hx hb dX9_whyNotTake_9 rfl (lv_at hl 2 rfl) ?_
    refine roS (wc := (wAr cy a0 r)) (As := [.ref a0, .int x2]) (rest := []) (c_X9_isUnit l D cy a0 r x2) hCF gX9_whyNotTake_X9_isUnit rfl hd_X9_isUnit ⟨rfl, rfl, Nat.le_of_ble_eq_true rfl, Nat.le_of_ble_eq_true rfl⟩ hG hP rfl hl.1 rfl (Nat.le_of_ble_eq_true rfl) dX9_whyNotTake_10 ⟨Nat.le_refl _, Nat.le_refl _⟩ ?_
    refine lv_if_eq (tgt := 23) hx hb dX9_whyNotTake_13 (by decide) (fun c_2 => ?_) (fun c_2 => ?_)
    · skip
      refine lv_iconst (v := (1 : Int32)) hx hb dX9_whyNotTake_23 (by decide) ?_
      exact ro_iret hx hb hr hlocks dX9_whyNotTake_24 (by rw [m_X9_whyNotTake, if_neg c_1, if_pos c_2])
    · skip
      refine lv_iload_n hx hb dX9_whyNotTake_16 rfl (lv_at hl 3 rfl) ?_
      refine roS (wc := ([] : va_W)) (As := [.int x3]) (rest := []) (c_X9_isPart l D cy x3) hCF gX9_whyNotTake_X9_isPart rfl hd_X9_isPart ⟨rfl, rfl, Nat.le_of_ble_eq_true rfl, Nat.le_of_ble_eq_true rfl⟩ hG va_P_nil rfl hl.1 rfl (Nat.le_of_ble_eq_true rfl) dX9_whyNotTake_17 ⟨Nat.le_refl _, Nat.le_refl _⟩ ?_
      refine lv_if_ne (tgt := 25) hx hb dX9_whyNotTake_20 (by decide) (fun c_3 => ?_) (fun c_3 => ?_)
      · skip
        refine lv_aload_n hx hb dX9_whyNotTake_25 rfl (lv_at hl 0 rfl) ?_
        refine lv_iload_n hx hb dX9_whyNotTake_26 rfl (lv_at hl 1 rfl) ?_
        refine lv_iconst (v := (0 : Int32)) hx hb dX9_whyNotTake_27 (by decide) ?_
        refine roS (wc := (wAr cy a0 r)) (As := [.ref a0, .int x1, .int (0 : Int32)]) (rest := []) (c_X9_of l D cy a0 r x1 (0 : Int32) (iv_isUnit hR c_1) (iv_wide (l2 := 0) (h2 := 4) (iv_lit (v := 0) (by decide)) (by decide))) hCF gX9_whyNotTake_X9_of rfl hd_X9_of ⟨rfl, rfl, Nat.le_of_ble_eq_true rfl, Nat.le_of_ble_eq_true rfl⟩ hG hP rfl hl.1 rfl (Nat.le_of_ble_eq_true rfl) dX9_whyNotTake_28 ⟨Nat.le_refl _, Nat.le_refl _⟩ ?_
        refine lv_aload_n hx hb dX9_whyNotTake_31 rfl (lv_at hl 0 rfl) ?_
        refine lv_iload_n hx hb dX9_whyNotTake_32 rfl (lv_at hl 2 rfl) ?_
        refine lv_iconst (v := (0 : Int32)) hx hb dX9_whyNotTake_33 (by decide) ?_
        refine roS (wc := (wAr cy a0 r)) (As := [.ref a0, .int x2, .int (0 : Int32)]) (rest := [.int (m_X9_of r x1 (0 : Int32))]) (c_X9_of l D cy a0 r x2 (0 : Int32) (iv_isUnit hR c_2) (iv_wide (l2 := 0) (h2 := 4) (iv_lit (v := 0) (by decide)) (by decide))) hCF gX9_whyNotTake_X9_of rfl hd_X9_of ⟨rfl, rfl, Nat.le_of_ble_eq_true rfl, Nat.le_of_ble_eq_true rfl⟩ hG hP rfl hl.1 rfl (Nat.le_of_ble_eq_true rfl) dX9_whyNotTake_34 ⟨Nat.le_refl _, Nat.le_refl _⟩ ?_
        refine lv_icmp_ne (tgt := 86) hx hb dX9_whyNotTake_37 (by decide) (fun c_4 => ?_) (fun c_4 => ?_)
        · skip
          refine lv_iconst (v := (0 : Int32)) hx hb dX9_whyNotTake_86 (by decide) ?_
          refine lv_istore (lv' := [(4, .int (0 : Int32)), (0, .ref a0), (1, .int x1), (2, .int x2), (3, .int x3)]) hx hb dX9_whyNotTake_87 hl (by decide) rfl (fun ls hl => ?_)
          refine lv_iload hx hb dX9_whyNotTake_89 (lv_at hl 0 rfl) ?_
          refine lv_if_eq (tgt := 98) hx hb dX9_whyNotTake_91 (by decide) (fun _ => ?_) (fun c => absurd (by decide) c)
          refine lv_iconst (v := (2 : Int32)) hx hb dX9_whyNotTake_98 (by decide) ?_
          exact ro_iret hx hb hr hlocks dX9_whyNotTake_99 (by rw [m_X9_whyNotTake, if_neg c_1, if_neg c_2, if_neg c_3, if_neg c_4])
        · skip
          refine lv_aload_n hx hb dX9_whyNotTake_40 rfl (lv_at hl 0 rfl) ?_
          refine lv_iload_n hx hb dX9_whyNotTake_41 rfl (lv_at hl 1 rfl) ?_
          refine lv_iconst (v := (2 : Int32)) hx hb dX9_whyNotTake_42 (by decide) ?_
          refine roS (wc := (wAr cy a0 r)) (As := [.ref a0, .int x1, .int (2 : Int32)]) (rest := []) (c_X9_of l D cy a0 r x1 (2 : Int32) (iv_isUnit hR c_1) (iv_wide (l2 := 0) (h2 := 4) (iv_lit (v := 2) (by decide)) (by decide))) hCF gX9_whyNotTake_X9_of rfl hd_X9_of ⟨rfl, rfl, Nat.le_of_ble_eq_true rfl, Nat.le_of_ble_eq_true rfl⟩ hG hP rfl hl.1 rfl (Nat.le_of_ble_eq_true rfl) dX9_whyNotTake_43 ⟨Nat.le_refl _, Nat.le_refl _⟩ ?_
          refine lv_aload_n hx hb dX9_whyNotTake_46 rfl (lv_at hl 0 rfl) ?_
          refine lv_iload_n hx hb dX9_whyNotTake_47 rfl (lv_at hl 2 rfl) ?_
          refine lv_iconst (v := (2 : Int32)) hx hb dX9_whyNotTake_48 (by decide) ?_
          refine roS (wc := (wAr cy a0 r)) (As := [.ref a0, .int x2, .int (2 : Int32)]) (rest := [.int (m_X9_of r x1 (2 : Int32))]) (c_X9_of l D cy a0 r x2 (2 : Int32) (iv_isUnit hR c_2) (iv_wide (l2 := 0) (h2 := 4) (iv_lit (v := 2) (by decide)) (by decide))) hCF gX9_whyNotTake_X9_of rfl hd_X9_of ⟨rfl, rfl, Nat.le_of_ble_eq_true rfl, Nat.le_of_ble_eq_true rfl⟩ hG hP rfl hl.1 rfl (Nat.le_of_ble_eq_true rfl) dX9_whyNotTake_49 ⟨Nat.le_refl _, Nat.le_refl _⟩ ?_
          refine lv_icmp_ne (tgt := 86) hx hb dX9_whyNotTake_52 (by decide) (fun c_5 => ?_) (fun c_5 => ?_)
          · skip
            refine lv_iconst (v := (0 : Int32)) hx hb dX9_whyNotTake_86 (by decide) ?_
            refine lv_istore (lv' := [(4, .int (0 : Int32)), (0, .ref a0), (1, .int x1), (2, .int x2), (3, .int x3)]) hx hb dX9_whyNotTake_87 hl (by decide) rfl (fun ls hl => ?_)
            refine lv_iload hx hb dX9_whyNotTake_89 (lv_at hl 0 rfl) ?_
            refine lv_if_eq (tgt := 98) hx hb dX9_whyNotTake_91 (by decide) (fun _ => ?_) (fun c => absurd (by decide) c)
            refine lv_iconst (v := (2 : Int32)) hx hb dX9_whyNotTake_98 (by decide) ?_
            exact ro_iret hx hb hr hlocks dX9_whyNotTake_99 (by rw [m_X9_whyNotTake, if_neg c_1, if_neg c_2, if_neg c_3, if_pos c_4, if_neg c_5])
          · skip
            refine lv_aload_n hx hb dX9_whyNotTake_55 rfl (lv_at hl 0 rfl) ?_
            refine lv_iload_n hx hb dX9_whyNotTake_56 rfl (lv_at hl 1 rfl) ?_
            refine lv_iconst (v := (3 : Int32)) hx hb dX9_whyNotTake_57 (by decide) ?_
            refine roS (wc := (wAr cy a0 r)) (As := [.ref a0, .int x1, .int (3 : Int32)]) (rest := []) (c_X9_of l D cy a0 r x1 (3 : Int32) (iv_isUnit hR c_1) (iv_wide (l2 := 0) (h2 := 4) (iv_lit (v := 3) (by decide)) (by decide))) hCF gX9_whyNotTake_X9_of rfl hd_X9_of ⟨rfl, rfl, Nat.le_of_ble_eq_true rfl, Nat.le_of_ble_eq_true rfl⟩ hG hP rfl hl.1 rfl (Nat.le_of_ble_eq_true rfl) dX9_whyNotTake_58 ⟨Nat.le_refl _, Nat.le_refl _⟩ ?_
            refine lv_iload_n hx hb dX9_whyNotTake_61 rfl (lv_at hl 3 rfl) ?_
            refine lv_ishr hx hb dX9_whyNotTake_62 ?_
            refine lv_iconst (v := (1 : Int32)) hx hb dX9_whyNotTake_63 (by decide) ?_
            refine lv_iand hx hb dX9_whyNotTake_64 ?_
            refine lv_iconst (v := (1 : Int32)) hx hb dX9_whyNotTake_65 (by decide) ?_
            refine lv_icmp_ne (tgt := 86) hx hb dX9_whyNotTake_66 (by decide) (fun c_6 => ?_) (fun c_6 => ?_)
            · skip
              refine lv_iconst (v := (0 : Int32)) hx hb dX9_whyNotTake_86 (by decide) ?_
              refine lv_istore (lv' := [(4, .int (0 : Int32)), (0, .ref a0), (1, .int x1), (2, .int x2), (3, .int x3)]) hx hb dX9_whyNotTake_87 hl (by decide) rfl (fun ls hl => ?_)
              refine lv_iload hx hb dX9_whyNotTake_89 (lv_at hl 0 rfl) ?_
              refine lv_if_eq (tgt := 98) hx hb dX9_whyNotTake_91 (by decide) (fun _ => ?_) (fun c => absurd (by decide) c)
              refine lv_iconst (v := (2 : Int32)) hx hb dX9_whyNotTake_98 (by decide) ?_
              exact ro_iret hx hb hr hlocks dX9_whyNotTake_99 (by rw [m_X9_whyNotTake, if_neg c_1, if_neg c_2, if_neg c_3, if_pos c_4, if_pos c_5, if_neg c_6])
            · skip
              refine lv_aload_n hx hb dX9_whyNotTake_69 rfl (lv_at hl 0 rfl) ?_
              refine lv_iload_n hx hb dX9_whyNotTake_70 rfl (lv_at hl 2 rfl) ?_
              refine lv_iconst (v := (3 : Int32)) hx hb dX9_whyNotTake_71 (by decide) ?_
              refine roS (wc := (wAr cy a0 r)) (As := [.ref a0, .int x2, .int (3 : Int32)]) (rest := []) (c_X9_of l D cy a0 r x2 (3 : Int32) (iv_isUnit hR c_2) (iv_wide (l2 := 0) (h2 := 4) (iv_lit (v := 3) (by decide)) (by decide))) hCF gX9_whyNotTake_X9_of rfl hd_X9_of ⟨rfl, rfl, Nat.le_of_ble_eq_true rfl, Nat.le_of_ble_eq_true rfl⟩ hG hP rfl hl.1 rfl (Nat.le_of_ble_eq_true rfl) dX9_whyNotTake_72 ⟨Nat.le_refl _, Nat.le_refl _⟩ ?_
              refine lv_iload_n hx hb dX9_whyNotTake_75 rfl (lv_at hl 3 rfl) ?_
              refine lv_ishr hx hb dX9_whyNotTake_76 ?_
              refine lv_iconst (v := (1 : Int32)) hx hb dX9_whyNotTake_77 (by decide) ?_
              refine lv_iand hx hb dX9_whyNotTake_78 ?_
              refine lv_if_ne (tgt := 86) hx hb dX9_whyNotTake_79 (by decide) (fun c_7 => ?_) (fun c_7 => ?_)
              · skip
                refine lv_iconst (v := (0 : Int32)) hx hb dX9_whyNotTake_86 (by decide) ?_
                refine lv_istore (lv' := [(4, .int (0 : Int32)), (0, .ref a0), (1, .int x1), (2, .int x2), (3, .int x3)]) hx hb dX9_whyNotTake_87 hl (by decide) rfl (fun ls hl => ?_)
                refine lv_iload hx hb dX9_whyNotTake_89 (lv_at hl 0 rfl) ?_
                refine lv_if_eq (tgt := 98) hx hb dX9_whyNotTake_91 (by decide) (fun _ => ?_) (fun c => absurd (by decide) c)
                refine lv_iconst (v := (2 : Int32)) hx hb dX9_whyNotTake_98 (by decide) ?_
                exact ro_iret hx hb hr hlocks dX9_whyNotTake_99 (by rw [m_X9_whyNotTake, if_neg c_1, if_neg c_2, if_neg c_3, if_pos c_4, if_pos c_5, if_pos c_6, if_neg c_7])
              · skip
                refine lv_iconst (v := (1 : Int32)) hx hb dX9_whyNotTake_82 (by decide) ?_
                refine lv_goto (tgt := 87) hx hb dX9_whyNotTake_83 (by decide) ?_
                refine lv_istore (lv' := [(4, .int (1 : Int32)), (0, .ref a0), (1, .int x1), (2, .int x2), (3, .int x3)]) hx hb dX9_whyNotTake_87 hl (by decide) rfl (fun ls hl => ?_)
                refine lv_iload hx hb dX9_whyNotTake_89 (lv_at hl 0 rfl) ?_
                refine lv_if_eq (tgt := 98) hx hb dX9_whyNotTake_91 (by decide) (fun c => absurd c (by decide)) (fun _ => ?_)
                refine lv_iconst (v := (0 : Int32)) hx hb dX9_whyNotTake_94 (by decide) ?_
                refine lv_goto (tgt := 99) hx hb dX9_whyNotTake_95 (by decide) ?_
                exact ro_iret hx hb hr hlocks dX9_whyNotTake_99 (by rw [m_X9_whyNotTake, if_neg c_1, if_neg c_2, if_neg c_3, if_pos c_4, if_pos c_5, if_pos c_6, if_pos c_7])
      · skip
        refine lv_iconst (v := (1 : Int32)) hx hb dX9_whyNotTake_23 (by decide) ?_
        exact ro_iret hx hb hr hlocks dX9_whyNotTake_24 (by rw [m_X9_whyNotTake, if_neg c_1, if_neg c_2, if_pos c_3])
theorem wn_nn_Take (r : Nat → Int32) (x1 x2 x3 : Int32) : 0 ≤ (m_X9_whyNotTake r x1 x2 x3).toInt := by
  unfold m_X9_whyNotTake
  repeat' split
  all_goals decide
theorem wn_Take_0 {r : Nat → Int32} {x1 x2 x3 : Int32} (hR : rOK r) (c : m_X9_whyNotTake r x1 x2 x3 = 0) : iv 0 15 x1 := by
  unfold m_X9_whyNotTake at c
  split at c
  · exact absurd c (by decide)
  rename_i h0
  exact iv_isUnit hR h0
theorem wn_Take_1 {r : Nat → Int32} {x1 x2 x3 : Int32} (hR : rOK r) (c : m_X9_whyNotTake r x1 x2 x3 = 0) : iv 0 15 x2 := by
  unfold m_X9_whyNotTake at c
  split at c
  · exact absurd c (by decide)
  rename_i h0
  split at c
  · exact absurd c (by decide)
  rename_i h1
  exact iv_isUnit hR h1
theorem wn_Take_2 {r : Nat → Int32} {x1 x2 x3 : Int32} (hR : rOK r) (c : m_X9_whyNotTake r x1 x2 x3 = 0) : iv 0 2 x3 := by
  unfold m_X9_whyNotTake at c
  split at c
  · exact absurd c (by decide)
  rename_i h0
  split at c
  · exact absurd c (by decide)
  rename_i h1
  split at c
  · exact absurd c (by decide)
  rename_i h2
  exact iv_isPart h2
