def m_X9_in (x1 : Int64) (x2 : Int64) (x3 : Int64) : Int32 := if (lg_cmp x1 x2) < (0 : Int32) then (0 : Int32) else if (0 : Int32) < (lg_cmp x1 x3) then (0 : Int32) else (1 : Int32)
theorem hd_X9_in : yX9_in.cls = RX9 ∧ yX9_in.cls ≠ "java/lang/invoke/MethodHandle" ∧ yX9_in.cls ≠ "java/lang/invoke/VarHandle" ∧ (parseMethodDescriptor yX9_in.desc).map (fun d => d.parameters.length) = some 3 := by decide +kernel
set_option maxHeartbeats 8000000 in
set_option maxRecDepth 20000 in
theorem c_X9_in (l : Launch) (D : va_G) (cy : Nat → ClassId) (x1 : Int64) (x2 : Int64) (x3 : Int64) : RO l D cy yX9_in wsX9_in ({ frames := 0, cells := 0, slots := 0, locals := 0 } : Room) ([] : va_W) [.long x1, .long x2, .long x3] (m_X9_in x1 x2 x3) := by
  refine RO.body (by decide) rfl (Nat.le_of_ble_eq_true rfl) ?_
  intro p e s m below meth c hx hb hml hr hts hown hlocks hP hG ls hl
  have hl : lv_has ls 6 [(0, .long x1), (2, .long x2), (4, .long x3)] := hl
  have hCF : CallFix p m c cX9_in 6 s ([.long x1, .long x2, .long x3] : List Value).toArray wsX9_in RX9 := ⟨hx, hb, hml, hown, hts⟩
  refine lv_lload_n hx hb dX9_in_0 rfl (lv_at hl 0 rfl) ?_
  refine lv_lload_n hx hb dX9_in_1 rfl (lv_at hl 1 rfl) ?_
  refine W.lcmp hx hb dX9_in_2 ?_
  refine lv_if_lt (tgt := 17) hx hb dX9_in_3 (by decide) (fun c_1 => ?_) (fun c_1 => ?_)
  · skip
    refine lv_iconst (v := (0 : Int32)) hx hb dX9_in_17 (by decide) ?_
    exact ro_zret hx hb hr hlocks rfl dX9_in_18 (by rw [m_X9_in, if_pos c_1])
  · skip
    refine lv_lload_n hx hb dX9_in_6 rfl (lv_at hl 0 rfl) ?_
    refine lv_lload hx hb dX9_in_7 (lv_at hl 2 rfl) ?_
    refine W.lcmp hx hb dX9_in_9 ?_
    refine lv_if_gt (tgt := 17) hx hb dX9_in_10 (by decide) (fun c_2 => ?_) (fun c_2 => ?_)
    · skip
      refine lv_iconst (v := (0 : Int32)) hx hb dX9_in_17 (by decide) ?_
      exact ro_zret hx hb hr hlocks rfl dX9_in_18 (by rw [m_X9_in, if_neg c_1, if_pos c_2])
    · skip
      refine lv_iconst (v := (1 : Int32)) hx hb dX9_in_13 (by decide) ?_
      refine lv_goto (tgt := 18) hx hb dX9_in_14 (by decide) ?_
      exact ro_zret hx hb hr hlocks rfl dX9_in_18 (by rw [m_X9_in, if_neg c_1, if_neg c_2])
theorem min_spec {a b c : Int64} (h : ¬ m_X9_in a b c = 0) : b.toInt ≤ a.toInt ∧ a.toInt ≤ c.toInt := by
  unfold m_X9_in at h
  split at h
  · exact absurd rfl h
  · rename_i h1
    split at h
    · exact absurd rfl h
    · rename_i h2
      rw [lg_cmp_lt, Int64.lt_iff_toInt_lt] at h1
      rw [lg_cmp_gt, Int64.lt_iff_toInt_lt] at h2
      omega
theorem min_of {a b c : Int64} (h1 : b.toInt ≤ a.toInt) (h2 : a.toInt ≤ c.toInt) : m_X9_in a b c = 1 := by
  unfold m_X9_in
  rw [if_neg (by rw [lg_cmp_lt, Int64.lt_iff_toInt_lt]; omega), if_neg (by rw [lg_cmp_gt, Int64.lt_iff_toInt_lt]; omega)]
theorem b01_in (a b c : Int64) : m_X9_in a b c = 0 ∨ m_X9_in a b c = 1 := by
  unfold m_X9_in
  split
  · exact Or.inl rfl
  · split
    · exact Or.inl rfl
    · exact Or.inr rfl
theorem nz {x : Int32} (h : x = 0 ∨ x = 1) : narrow .boolean (.int x) = .int x := by
  rcases h with rfl | rfl <;> rfl
theorem i64_i (x : Int32) : x.toInt64.toInt = x.toInt := Int32.toInt_toInt64 x
theorem iv_min {x : Int32} {lo hi : Int} {a b : Int64} (c : ¬ m_X9_in x.toInt64 a b = 0) (ha : a.toInt = lo := by decide) (hb : b.toInt = hi := by decide) : iv lo hi x := by
  have h := min_spec c
  rw [i64_i] at h
  exact ⟨by omega, by omega⟩
theorem iv_tnc {x : Int32} {h : Int} {n : Nat} (a : iv 0 h x) (e : h < n) : x.toNatClampNeg < n := tnc_lt a.1 (by have := a.2; omega)
def m_X9_of (r : (Nat → Int32)) (x1 : Int32) (x2 : Int32) : Int32 := r (((8 : Int32) + ((5 : Int32) * x1)) + x2).toNatClampNeg
theorem hd_X9_of : yX9_of.cls = RX9 ∧ yX9_of.cls ≠ "java/lang/invoke/MethodHandle" ∧ yX9_of.cls ≠ "java/lang/invoke/VarHandle" ∧ (parseMethodDescriptor yX9_of.desc).map (fun d => d.parameters.length) = some 3 := by decide +kernel
set_option maxHeartbeats 8000000 in
set_option maxRecDepth 20000 in
theorem c_X9_of (l : Launch) (D : va_G) (cy : Nat → ClassId) (a0 : Nat) (r : (Nat → Int32)) (x1 : Int32) (x2 : Int32) (h_x1 : iv 0 15 x1) (h_x2 : iv 0 4 x2) : RO l D cy yX9_of wsX9_of ({ frames := 0, cells := 0, slots := 0, locals := 0 } : Room) (wAr cy a0 r) [.ref a0, .int x1, .int x2] (m_X9_of r x1 x2) := by
  refine RO.body (by decide) rfl (Nat.le_of_ble_eq_true rfl) ?_
  intro p e s m below meth c hx hb hml hr hts hown hlocks hP hG ls hl
  have hl : lv_has ls 3 [(0, .ref a0), (1, .int x1), (2, .int x2)] := hl
  have hCF : CallFix p m c cX9_of 3 s ([.ref a0, .int x1, .int x2] : List Value).toArray wsX9_of RX9 := ⟨hx, hb, hml, hown, hts⟩
  refine lv_aload_n hx hb dX9_of_0 rfl (lv_at hl 0 rfl) ?_
  refine lv_bipush (v := (8 : Int32)) hx hb dX9_of_1 (by decide) ?_
  refine lv_iconst (v := (5 : Int32)) hx hb dX9_of_3 (by decide) ?_
  refine lv_iload_n hx hb dX9_of_4 rfl (lv_at hl 1 rfl) ?_
  refine lv_imul hx hb dX9_of_5 ?_
  refine lv_iadd hx hb dX9_of_6 ?_
  refine lv_iload_n hx hb dX9_of_7 rfl (lv_at hl 2 rfl) ?_
  refine lv_iadd hx hb dX9_of_8 ?_
  refine va_iald hx hb hG.1 hP 0 0 (n := 383) (f := r) g_Ar_0 rfl (iv_in (iv_add (l := 8) (h := 87) (iv_add (l := 8) (h := 83) (iv_lit (v := 8) (by decide)) (iv_mul (l := 0) (h := 75) (iv_lit (v := 5) (by decide)) h_x1 (by decide)) (by decide)) h_x2 (by decide)) (by decide) (by decide)) dX9_of_9 ?_
  exact ro_iret hx hb hr hlocks dX9_of_10 (by rw [m_X9_of])
theorem tnc_of {x : Int32} {n : Nat} (h : x.toInt = n) : x.toNatClampNeg = n := by
  have : x.toNatClampNeg = x.toInt.toNat := rfl
  omega
theorem iv_int {x : Int32} {h : Int} (a : iv 0 h x) : x.toInt = x.toNatClampNeg := by
  have : x.toNatClampNeg = x.toInt.toNat := rfl
  have := a.1
  omega
theorem ix_of {u w : Int32} (hu : iv 0 15 u) (hw : iv 0 4 w) : ((8 + 5 * u) + w).toNatClampNeg = 8 + 5 * u.toNatClampNeg + w.toNatClampNeg := by
  have e5 : (5 : Int32).toInt = 5 := by decide
  have e8 : (8 : Int32).toInt = 8 := by decide
  have hu1 := hu.1
  have hu2 := hu.2
  have hw1 := hw.1
  have hw2 := hw.2
  have a1 : ((5 : Int32) * u).toInt = 5 * u.toInt := by rw [i32_mul (by rw [e5]; omega) (by rw [e5]; omega), e5]
  have a2 : ((8 : Int32) + 5 * u).toInt = 8 + 5 * u.toInt := by rw [i32_add (by rw [a1, e8]; omega) (by rw [a1, e8]; omega), a1, e8]
  have a3 : ((8 : Int32) + 5 * u + w).toInt = 8 + 5 * u.toInt + w.toInt := by rw [i32_add (by rw [a2]; omega) (by rw [a2]; omega), a2]
  have b1 := iv_int hu
  have b2 := iv_int hw
  exact tnc_of (by omega)
theorem of_eq {r : Nat → Int32} {u w : Int32} (hu : iv 0 15 u) (hw : iv 0 4 w) : m_X9_of r u w = r (8 + 5 * u.toNatClampNeg + w.toNatClampNeg) := by
  unfold m_X9_of
  rw [ix_of hu hw]
theorem rk_of0 {r : Nat → Int32} {u : Int32} (hR : rOK r) (hu : iv 0 15 u) : iv 0 2 (m_X9_of r u 0) := by
  rw [of_eq hu (iv_wide (iv_lit (v := 0) (by decide)) (by decide))]
  exact (hR.2.1 _ (iv_tnc (n := 16) hu (by decide))).1
theorem rk_of1 {r : Nat → Int32} {u : Int32} (hR : rOK r) (hu : iv 0 15 u) : iv 0 4 (m_X9_of r u 1) := by
  rw [of_eq hu (iv_wide (iv_lit (v := 1) (by decide)) (by decide))]
  exact (hR.2.1 _ (iv_tnc (n := 16) hu (by decide))).2.1
theorem rk_of2 {r : Nat → Int32} {u : Int32} (hR : rOK r) (hu : iv 0 15 u) : iv 0 4 (m_X9_of r u 2) := by
  rw [of_eq hu (iv_wide (iv_lit (v := 2) (by decide)) (by decide))]
  exact (hR.2.1 _ (iv_tnc (n := 16) hu (by decide))).2.2.1
theorem rk_of3 {r : Nat → Int32} {u : Int32} (hR : rOK r) (hu : iv 0 15 u) : iv 0 7 (m_X9_of r u 3) := by
  rw [of_eq hu (iv_wide (iv_lit (v := 3) (by decide)) (by decide))]
  exact (hR.2.1 _ (iv_tnc (n := 16) hu (by decide))).2.2.2
theorem rk_many {r : Nat → Int32} (hR : rOK r) : iv 0 16 (r (1 : Int32).toNatClampNeg) := hR.1
theorem rok_free {r : Nat → Int32} {k : Nat} {v : Int32} (hR : rOK r) (hk : k = 0 ∨ (2 ≤ k ∧ k ≤ 7) ∨ (88 ≤ k ∧ k ≤ 317)) : rOK (upd r k v) := by
  obtain ⟨h1, h2, h3⟩ := hR
  refine ⟨?_, fun u hu => ?_, fun h hh => ?_⟩
  · rw [pk_un (by omega)]; exact h1
  · have := h2 u hu
    rw [pk_un (by omega), pk_un (by omega), pk_un (by omega), pk_un (by omega)]
    exact this
  · rw [pk_un (by omega)]; exact h3 h hh
def m_X9_lay (r : (Nat → Int32)) (x1 : Int32) (x2 : Int32) (x3 : Int32) : (Nat → Int32) := upd r (((8 : Int32) + ((5 : Int32) * x1)) + x2).toNatClampNeg x3
theorem hd_X9_lay : yX9_lay.cls = RX9 ∧ yX9_lay.cls ≠ "java/lang/invoke/MethodHandle" ∧ yX9_lay.cls ≠ "java/lang/invoke/VarHandle" ∧ (parseMethodDescriptor yX9_lay.desc).map (fun d => d.parameters.length) = some 4 := by decide +kernel
set_option maxHeartbeats 8000000 in
set_option maxRecDepth 20000 in
theorem c_X9_lay (l : Launch) (D : va_G) (cy : Nat → ClassId) (a0 : Nat) (r : (Nat → Int32)) (x1 : Int32) (x2 : Int32) (x3 : Int32) (h_x1 : iv 0 15 x1) (h_x2 : iv 0 4 x2) : MV l D cy yX9_lay wsX9_lay ({ frames := 0, cells := 0, slots := 0, locals := 0 } : Room) (wAr cy a0 r) (wAr cy a0 (m_X9_lay r x1 x2 x3)) [.ref a0, .int x1, .int x2, .int x3] := by
  refine MV.body (by decide) rfl (Nat.le_of_ble_eq_true rfl) ?_
  intro p e s m below meth c hx hb hml hr hts hown hlocks hP hG ls hl A hD hA hS
  have hl : lv_has ls 4 [(0, .ref a0), (1, .int x1), (2, .int x2), (3, .int x3)] := hl
  have hCF : CallFix p m c cX9_lay 4 s ([.ref a0, .int x1, .int x2, .int x3] : List Value).toArray wsX9_lay RX9 := ⟨hx, hb, hml, hown, hts⟩
  have hP : va_P D vwCl (wAr cy a0 r) s.heap := hP
  refine lv_aload_n hx hb dX9_lay_0 rfl (lv_at hl 0 rfl) ?_
  refine lv_bipush (v := (8 : Int32)) hx hb dX9_lay_1 (by decide) ?_
  refine lv_iconst (v := (5 : Int32)) hx hb dX9_lay_3 (by decide) ?_
  refine lv_iload_n hx hb dX9_lay_4 rfl (lv_at hl 1 rfl) ?_
  refine lv_imul hx hb dX9_lay_5 ?_
  refine lv_iadd hx hb dX9_lay_6 ?_
  refine lv_iload_n hx hb dX9_lay_7 rfl (lv_at hl 2 rfl) ?_
  refine lv_iadd hx hb dX9_lay_8 ?_
  refine lv_iload_n hx hb dX9_lay_9 rfl (lv_at hl 3 rfl) ?_
  refine va_iast hx hb hG.1 hP hD hS 0 0 (n := 383) (f := r) g_Ar_0 rfl (iv_in (iv_add (l := 8) (h := 87) (iv_add (l := 8) (h := 83) (iv_lit (v := 8) (by decide)) (iv_mul (l := 0) (h := 75) (iv_lit (v := 5) (by decide)) h_x1 (by decide)) (by decide)) h_x2 (by decide)) (by decide) (by decide)) dX9_lay_10 (fun H locs hP hD hS => ?_)
  have hP : va_P D vwCl (wAr cy a0 (upd r (((8 : Int32) + ((5 : Int32) * x1)) + x2).toNatClampNeg x3)) H := va_P_eq hP s_Ar_0
  have hD : va_D A (wAr cy a0 (upd r (((8 : Int32) + ((5 : Int32) * x1)) + x2).toNatClampNeg x3)) := va_D_eq hD s_Ar_0
  exact mu_vret hx hb hr hlocks hP hS dX9_lay_11 (by rw [m_X9_lay])
theorem lay_eq {r : Nat → Int32} {u w v : Int32} (hu : iv 0 15 u) (hw : iv 0 4 w) : m_X9_lay r u w v = upd r (8 + 5 * u.toNatClampNeg + w.toNatClampNeg) v := by
  unfold m_X9_lay
  rw [ix_of hu hw]
theorem rok_lay {r : Nat → Int32} {u w v : Int32} (hR : rOK r) (hu : iv 0 15 u) (hw : iv 0 4 w) (h0 : w.toInt = 0 → iv 0 2 v) (h1 : w.toInt = 1 → iv 0 4 v) (h2 : w.toInt = 2 → iv 0 4 v) (h3 : w.toInt = 3 → iv 0 7 v) : rOK (m_X9_lay r u w v) := by
  rw [lay_eq hu hw]
  have b1 := iv_int hu
  have b2 := iv_int hw
  have := hu.2
  have := hw.2
  obtain ⟨g1, g2, g3⟩ := hR
  refine ⟨?_, fun x hx => ?_, fun h hh => ?_⟩
  · rw [pk_un (by omega)]; exact g1
  · obtain ⟨q0, q1, q2, q3⟩ := g2 x hx
    refine ⟨?_, ?_, ?_, ?_⟩
    · by_cases e : 8 + 5 * x = 8 + 5 * u.toNatClampNeg + w.toNatClampNeg
      · rw [e, pk_us]; exact h0 (by omega)
      · rw [pk_un e]; exact q0
    · by_cases e : 8 + 5 * x + 1 = 8 + 5 * u.toNatClampNeg + w.toNatClampNeg
      · rw [e, pk_us]; exact h1 (by omega)
      · rw [pk_un e]; exact q1
    · by_cases e : 8 + 5 * x + 2 = 8 + 5 * u.toNatClampNeg + w.toNatClampNeg
      · rw [e, pk_us]; exact h2 (by omega)
      · rw [pk_un e]; exact q2
    · by_cases e : 8 + 5 * x + 3 = 8 + 5 * u.toNatClampNeg + w.toNatClampNeg
      · rw [e, pk_us]; exact h3 (by omega)
      · rw [pk_un e]; exact q3
  · rw [pk_un (by omega)]; exact g3 h hh
theorem i32_2 : (2 : Int32).toInt = 2 := by decide
theorem i32_3 : (3 : Int32).toInt = 3 := by decide
theorem rok_lay3 {r : Nat → Int32} {u v : Int32} (hR : rOK r) (hu : iv 0 15 u) (hv : iv 0 7 v) : rOK (m_X9_lay r u 3 v) :=
  rok_lay hR hu (iv_wide (iv_lit (v := 3) (by decide)) (by decide)) (fun h => by rw [i32_3] at h; omega) (fun h => by rw [i32_3] at h; omega) (fun h => by rw [i32_3] at h; omega) (fun _ => hv)
def m_X9_isUnit (r : (Nat → Int32)) (x1 : Int32) : Int32 := m_X9_in x1.toInt64 (0 : Int64) ((r (1 : Int32).toNatClampNeg) - (1 : Int32)).toInt64
theorem hd_X9_isUnit : yX9_isUnit.cls = RX9 ∧ yX9_isUnit.cls ≠ "java/lang/invoke/MethodHandle" ∧ yX9_isUnit.cls ≠ "java/lang/invoke/VarHandle" ∧ (parseMethodDescriptor yX9_isUnit.desc).map (fun d => d.parameters.length) = some 2 := by decide +kernel
set_option maxHeartbeats 8000000 in
set_option maxRecDepth 20000 in
theorem c_X9_isUnit (l : Launch) (D : va_G) (cy : Nat → ClassId) (a0 : Nat) (r : (Nat → Int32)) (x1 : Int32) : RO l D cy yX9_isUnit wsX9_isUnit ({ frames := 1, cells := 0, slots := 0, locals := 25 } : Room) (wAr cy a0 r) [.ref a0, .int x1] (m_X9_isUnit r x1) := by
  refine RO.body (by decide) rfl (Nat.le_of_ble_eq_true rfl) ?_
  intro p e s m below meth c hx hb hml hr hts hown hlocks hP hG ls hl
  have hl : lv_has ls 2 [(0, .ref a0), (1, .int x1)] := hl
  have hCF : CallFix p m c cX9_isUnit 2 s ([.ref a0, .int x1] : List Value).toArray wsX9_isUnit RX9 := ⟨hx, hb, hml, hown, hts⟩
  refine lv_iload_n hx hb dX9_isUnit_0 rfl (lv_at hl 1 rfl) ?_
  refine lv_i2l hx hb dX9_isUnit_1 rfl ?_
  refine lv_lconst (v := (0 : Int64)) hx hb dX9_isUnit_2 (by decide) ?_
  refine lv_aload_n hx hb dX9_isUnit_3 rfl (lv_at hl 0 rfl) ?_
  refine lv_iconst (v := (1 : Int32)) hx hb dX9_isUnit_4 (by decide) ?_
  refine va_iald hx hb hG.1 hP 0 0 (n := 383) (f := r) g_Ar_0 rfl (bd_of (by decide) (by decide)) dX9_isUnit_5 ?_
  refine lv_iconst (v := (1 : Int32)) hx hb dX9_isUnit_6 (by decide) ?_
  refine lv_isub hx hb dX9_isUnit_7 ?_
  refine lv_i2l hx hb dX9_isUnit_8 rfl ?_
  refine roS (wc := ([] : va_W)) (As := [.long x1.toInt64, .long (0 : Int64), .long ((r (1 : Int32).toNatClampNeg) - (1 : Int32)).toInt64]) (rest := []) (c_X9_in l D cy x1.toInt64 (0 : Int64) ((r (1 : Int32).toNatClampNeg) - (1 : Int32)).toInt64) hCF gX9_isUnit_X9_in rfl hd_X9_in ⟨rfl, rfl, Nat.le_of_ble_eq_true rfl, Nat.le_of_ble_eq_true rfl⟩ hG va_P_nil rfl hl.1 rfl (Nat.le_of_ble_eq_true rfl) dX9_isUnit_9 ⟨Nat.le_refl _, Nat.le_refl _⟩ ?_
  exact ro_zret hx hb hr hlocks (nz (b01_in _ _ _)) dX9_isUnit_12 (by rw [m_X9_isUnit])
theorem iv_isUnit {r : Nat → Int32} {u : Int32} (hR : rOK r) (c : ¬ m_X9_isUnit r u = 0) : iv 0 15 u := by
  unfold m_X9_isUnit at c
  have h := min_spec c
  rw [i64_i, i64_i] at h
  have h1 := rk_many hR
  have h2 := iv_sub (l := -1) (h := 15) h1 (iv_lit (v := 1) (x := (1 : Int32)) (by decide)) (by decide)
  have e0 : (0 : Int64).toInt = 0 := by decide
  have := h2.2
  exact ⟨by omega, by omega⟩
def m_X9_isHolder (x1 : Int32) : Int32 := m_X9_in x1.toInt64 (0 : Int64) (4 : Int64)
theorem hd_X9_isHolder : yX9_isHolder.cls = RX9 ∧ yX9_isHolder.cls ≠ "java/lang/invoke/MethodHandle" ∧ yX9_isHolder.cls ≠ "java/lang/invoke/VarHandle" ∧ (parseMethodDescriptor yX9_isHolder.desc).map (fun d => d.parameters.length) = some 1 := by decide +kernel
set_option maxHeartbeats 8000000 in
set_option maxRecDepth 20000 in
theorem c_X9_isHolder (l : Launch) (D : va_G) (cy : Nat → ClassId) (x1 : Int32) : RO l D cy yX9_isHolder wsX9_isHolder ({ frames := 1, cells := 0, slots := 0, locals := 25 } : Room) ([] : va_W) [.int x1] (m_X9_isHolder x1) := by
  refine RO.body (by decide) rfl (Nat.le_of_ble_eq_true rfl) ?_
  intro p e s m below meth c hx hb hml hr hts hown hlocks hP hG ls hl
  have hl : lv_has ls 1 [(0, .int x1)] := hl
  have hCF : CallFix p m c cX9_isHolder 1 s ([.int x1] : List Value).toArray wsX9_isHolder RX9 := ⟨hx, hb, hml, hown, hts⟩
  have k_0 := hts (Cond.constantLong RX9 41 (4)) (List.mem_of_getElem? (i := 1) rfl)
  refine lv_iload_n hx hb dX9_isHolder_0 rfl (lv_at hl 0 rfl) ?_
  refine lv_i2l hx hb dX9_isHolder_1 rfl ?_
  refine lv_lconst (v := (0 : Int64)) hx hb dX9_isHolder_2 (by decide) ?_
  refine lv_ldc2 (v := (4 : Int64)) hx hb hown k_0 dX9_isHolder_3 ?_
  refine roS (wc := ([] : va_W)) (As := [.long x1.toInt64, .long (0 : Int64), .long (4 : Int64)]) (rest := []) (c_X9_in l D cy x1.toInt64 (0 : Int64) (4 : Int64)) hCF gX9_isHolder_X9_in rfl hd_X9_in ⟨rfl, rfl, Nat.le_of_ble_eq_true rfl, Nat.le_of_ble_eq_true rfl⟩ hG hP rfl hl.1 rfl (Nat.le_of_ble_eq_true rfl) dX9_isHolder_6 ⟨Nat.le_refl _, Nat.le_refl _⟩ ?_
  exact ro_zret hx hb hr hlocks (nz (b01_in _ _ _)) dX9_isHolder_9 (by rw [m_X9_isHolder])
theorem iv_isHolder {x : Int32} (c : ¬ m_X9_isHolder x = 0) : iv 0 4 x := by
  unfold m_X9_isHolder at c
  exact iv_min c
def m_X9_isKind (x1 : Int32) : Int32 := m_X9_in x1.toInt64 (0 : Int64) (2 : Int64)
theorem hd_X9_isKind : yX9_isKind.cls = RX9 ∧ yX9_isKind.cls ≠ "java/lang/invoke/MethodHandle" ∧ yX9_isKind.cls ≠ "java/lang/invoke/VarHandle" ∧ (parseMethodDescriptor yX9_isKind.desc).map (fun d => d.parameters.length) = some 1 := by decide +kernel
set_option maxHeartbeats 8000000 in
set_option maxRecDepth 20000 in
theorem c_X9_isKind (l : Launch) (D : va_G) (cy : Nat → ClassId) (x1 : Int32) : RO l D cy yX9_isKind wsX9_isKind ({ frames := 1, cells := 0, slots := 0, locals := 25 } : Room) ([] : va_W) [.int x1] (m_X9_isKind x1) := by
  refine RO.body (by decide) rfl (Nat.le_of_ble_eq_true rfl) ?_
  intro p e s m below meth c hx hb hml hr hts hown hlocks hP hG ls hl
  have hl : lv_has ls 1 [(0, .int x1)] := hl
  have hCF : CallFix p m c cX9_isKind 1 s ([.int x1] : List Value).toArray wsX9_isKind RX9 := ⟨hx, hb, hml, hown, hts⟩
  have k_0 := hts (Cond.constantLong RX9 43 (2)) (List.mem_of_getElem? (i := 1) rfl)
  refine lv_iload_n hx hb dX9_isKind_0 rfl (lv_at hl 0 rfl) ?_
  refine lv_i2l hx hb dX9_isKind_1 rfl ?_
  refine lv_lconst (v := (0 : Int64)) hx hb dX9_isKind_2 (by decide) ?_
  refine lv_ldc2 (v := (2 : Int64)) hx hb hown k_0 dX9_isKind_3 ?_
  refine roS (wc := ([] : va_W)) (As := [.long x1.toInt64, .long (0 : Int64), .long (2 : Int64)]) (rest := []) (c_X9_in l D cy x1.toInt64 (0 : Int64) (2 : Int64)) hCF gX9_isKind_X9_in rfl hd_X9_in ⟨rfl, rfl, Nat.le_of_ble_eq_true rfl, Nat.le_of_ble_eq_true rfl⟩ hG hP rfl hl.1 rfl (Nat.le_of_ble_eq_true rfl) dX9_isKind_6 ⟨Nat.le_refl _, Nat.le_refl _⟩ ?_
  exact ro_zret hx hb hr hlocks (nz (b01_in _ _ _)) dX9_isKind_9 (by rw [m_X9_isKind])
theorem iv_isKind {x : Int32} (c : ¬ m_X9_isKind x = 0) : iv 0 2 x := by
  unfold m_X9_isKind at c
  exact iv_min c
def m_X9_isPart (x1 : Int32) : Int32 := m_X9_in x1.toInt64 (0 : Int64) (2 : Int64)
theorem hd_X9_isPart : yX9_isPart.cls = RX9 ∧ yX9_isPart.cls ≠ "java/lang/invoke/MethodHandle" ∧ yX9_isPart.cls ≠ "java/lang/invoke/VarHandle" ∧ (parseMethodDescriptor yX9_isPart.desc).map (fun d => d.parameters.length) = some 1 := by decide +kernel
set_option maxHeartbeats 8000000 in
set_option maxRecDepth 20000 in
theorem c_X9_isPart (l : Launch) (D : va_G) (cy : Nat → ClassId) (x1 : Int32) : RO l D cy yX9_isPart wsX9_isPart ({ frames := 1, cells := 0, slots := 0, locals := 25 } : Room) ([] : va_W) [.int x1] (m_X9_isPart x1) := by
  refine RO.body (by decide) rfl (Nat.le_of_ble_eq_true rfl) ?_
  intro p e s m below meth c hx hb hml hr hts hown hlocks hP hG ls hl
  have hl : lv_has ls 1 [(0, .int x1)] := hl
  have hCF : CallFix p m c cX9_isPart 1 s ([.int x1] : List Value).toArray wsX9_isPart RX9 := ⟨hx, hb, hml, hown, hts⟩
  have k_0 := hts (Cond.constantLong RX9 43 (2)) (List.mem_of_getElem? (i := 1) rfl)
  refine lv_iload_n hx hb dX9_isPart_0 rfl (lv_at hl 0 rfl) ?_
  refine lv_i2l hx hb dX9_isPart_1 rfl ?_
  refine lv_lconst (v := (0 : Int64)) hx hb dX9_isPart_2 (by decide) ?_
  refine lv_ldc2 (v := (2 : Int64)) hx hb hown k_0 dX9_isPart_3 ?_
  refine roS (wc := ([] : va_W)) (As := [.long x1.toInt64, .long (0 : Int64), .long (2 : Int64)]) (rest := []) (c_X9_in l D cy x1.toInt64 (0 : Int64) (2 : Int64)) hCF gX9_isPart_X9_in rfl hd_X9_in ⟨rfl, rfl, Nat.le_of_ble_eq_true rfl, Nat.le_of_ble_eq_true rfl⟩ hG hP rfl hl.1 rfl (Nat.le_of_ble_eq_true rfl) dX9_isPart_6 ⟨Nat.le_refl _, Nat.le_refl _⟩ ?_
  exact ro_zret hx hb hr hlocks (nz (b01_in _ _ _)) dX9_isPart_9 (by rw [m_X9_isPart])
theorem iv_isPart {x : Int32} (c : ¬ m_X9_isPart x = 0) : iv 0 2 x := by
  unfold m_X9_isPart at c
  exact iv_min c
def m_X9_isFree (r : (Nat → Int32)) (x1 : Int32) : Int32 := if (m_X9_of r x1 (1 : Int32)) = (m_X9_of r x1 (2 : Int32)) then (1 : Int32) else (0 : Int32)
theorem hd_X9_isFree : yX9_isFree.cls = RX9 ∧ yX9_isFree.cls ≠ "java/lang/invoke/MethodHandle" ∧ yX9_isFree.cls ≠ "java/lang/invoke/VarHandle" ∧ (parseMethodDescriptor yX9_isFree.desc).map (fun d => d.parameters.length) = some 2 := by decide +kernel
set_option maxHeartbeats 8000000 in
set_option maxRecDepth 20000 in
theorem c_X9_isFree (l : Launch) (D : va_G) (cy : Nat → ClassId) (a0 : Nat) (r : (Nat → Int32)) (x1 : Int32) (h_x1 : iv 0 15 x1) : RO l D cy yX9_isFree wsX9_isFree ({ frames := 1, cells := 0, slots := 0, locals := 22 } : Room) (wAr cy a0 r) [.ref a0, .int x1] (m_X9_isFree r x1) := by
  refine RO.body (by decide) rfl (Nat.le_of_ble_eq_true rfl) ?_
  intro p e s m below meth c hx hb hml hr hts hown hlocks hP hG ls hl
  have hl : lv_has ls 2 [(0, .ref a0), (1, .int x1)] := hl
  have hCF : CallFix p m c cX9_isFree 2 s ([.ref a0, .int x1] : List Value).toArray wsX9_isFree RX9 := ⟨hx, hb, hml, hown, hts⟩
  refine lv_aload_n hx hb dX9_isFree_0 rfl (lv_at hl 0 rfl) ?_
  refine lv_iload_n hx hb dX9_isFree_1 rfl (lv_at hl 1 rfl) ?_
  refine lv_iconst (v := (1 : Int32)) hx hb dX9_isFree_2 (by decide) ?_
  refine roS (wc := (wAr cy a0 r)) (As := [.ref a0, .int x1, .int (1 : Int32)]) (rest := []) (c_X9_of l D cy a0 r x1 (1 : Int32) h_x1 (iv_wide (l2 := 0) (h2 := 4) (iv_lit (v := 1) (by decide)) (by decide))) hCF gX9_isFree_X9_of rfl hd_X9_of ⟨rfl, rfl, Nat.le_of_ble_eq_true rfl, Nat.le_of_ble_eq_true rfl⟩ hG hP rfl hl.1 rfl (Nat.le_of_ble_eq_true rfl) dX9_isFree_3 ⟨Nat.le_refl _, Nat.le_refl _⟩ ?_
  refine lv_aload_n hx hb dX9_isFree_6 rfl (lv_at hl 0 rfl) ?_
  refine lv_iload_n hx hb dX9_isFree_7 rfl (lv_at hl 1 rfl) ?_
  refine lv_iconst (v := (2 : Int32)) hx hb dX9_isFree_8 (by decide) ?_
  refine roS (wc := (wAr cy a0 r)) (As := [.ref a0, .int x1, .int (2 : Int32)]) (rest := [.int (m_X9_of r x1 (1 : Int32))]) (c_X9_of l D cy a0 r x1 (2 : Int32) h_x1 (iv_wide (l2 := 0) (h2 := 4) (iv_lit (v := 2) (by decide)) (by decide))) hCF gX9_isFree_X9_of rfl hd_X9_of ⟨rfl, rfl, Nat.le_of_ble_eq_true rfl, Nat.le_of_ble_eq_true rfl⟩ hG hP rfl hl.1 rfl (Nat.le_of_ble_eq_true rfl) dX9_isFree_9 ⟨Nat.le_refl _, Nat.le_refl _⟩ ?_
  refine lv_icmp_ne (tgt := 19) hx hb dX9_isFree_12 (by decide) (fun c_1 => ?_) (fun c_1 => ?_)
  · skip
    refine lv_iconst (v := (0 : Int32)) hx hb dX9_isFree_19 (by decide) ?_
    exact ro_zret hx hb hr hlocks rfl dX9_isFree_20 (by rw [m_X9_isFree, if_neg c_1])
  · skip
    refine lv_iconst (v := (1 : Int32)) hx hb dX9_isFree_15 (by decide) ?_
    refine lv_goto (tgt := 20) hx hb dX9_isFree_16 (by decide) ?_
    exact ro_zret hx hb hr hlocks rfl dX9_isFree_20 (by rw [m_X9_isFree, if_pos c_1])
def m_X9_missing (r : (Nat → Int32)) (x1 : Int32) : Int32 := (((3 : Int32) - ((m_X9_of r x1 (3 : Int32)) &&& (1 : Int32))) - (((m_X9_of r x1 (3 : Int32)) >>> ((1 : Int32) &&& (31 : Int32))) &&& (1 : Int32))) - (((m_X9_of r x1 (3 : Int32)) >>> ((2 : Int32) &&& (31 : Int32))) &&& (1 : Int32))
theorem hd_X9_missing : yX9_missing.cls = RX9 ∧ yX9_missing.cls ≠ "java/lang/invoke/MethodHandle" ∧ yX9_missing.cls ≠ "java/lang/invoke/VarHandle" ∧ (parseMethodDescriptor yX9_missing.desc).map (fun d => d.parameters.length) = some 2 := by decide +kernel
set_option maxHeartbeats 8000000 in
set_option maxRecDepth 20000 in
theorem c_X9_missing (l : Launch) (D : va_G) (cy : Nat → ClassId) (a0 : Nat) (r : (Nat → Int32)) (x1 : Int32) (h_x1 : iv 0 15 x1) : RO l D cy yX9_missing wsX9_missing ({ frames := 1, cells := 0, slots := 0, locals := 22 } : Room) (wAr cy a0 r) [.ref a0, .int x1] (m_X9_missing r x1) := by
  refine RO.body (by decide) rfl (Nat.le_of_ble_eq_true rfl) ?_
  intro p e s m below meth c hx hb hml hr hts hown hlocks hP hG ls hl
  have hl : lv_has ls 3 [(0, .ref a0), (1, .int x1)] := hl
  have hCF : CallFix p m c cX9_missing 3 s ([.ref a0, .int x1] : List Value).toArray wsX9_missing RX9 := ⟨hx, hb, hml, hown, hts⟩
  refine lv_aload_n hx hb dX9_missing_0 rfl (lv_at hl 0 rfl) ?_
  refine lv_iload_n hx hb dX9_missing_1 rfl (lv_at hl 1 rfl) ?_
  refine lv_iconst (v := (3 : Int32)) hx hb dX9_missing_2 (by decide) ?_
  refine roS (wc := (wAr cy a0 r)) (As := [.ref a0, .int x1, .int (3 : Int32)]) (rest := []) (c_X9_of l D cy a0 r x1 (3 : Int32) h_x1 (iv_wide (l2 := 0) (h2 := 4) (iv_lit (v := 3) (by decide)) (by decide))) hCF gX9_missing_X9_of rfl hd_X9_of ⟨rfl, rfl, Nat.le_of_ble_eq_true rfl, Nat.le_of_ble_eq_true rfl⟩ hG hP rfl hl.1 rfl (Nat.le_of_ble_eq_true rfl) dX9_missing_3 ⟨Nat.le_refl _, Nat.le_refl _⟩ ?_
  refine lv_istore_n (lv' := [(2, .int (m_X9_of r x1 (3 : Int32))), (0, .ref a0), (1, .int x1)]) hx hb dX9_missing_6 rfl hl (by decide) rfl (fun ls hl => ?_)
  refine lv_iconst (v := (3 : Int32)) hx hb dX9_missing_7 (by decide) ?_
  refine lv_iload_n hx hb dX9_missing_8 rfl (lv_at hl 0 rfl) ?_
  refine lv_iconst (v := (1 : Int32)) hx hb dX9_missing_9 (by decide) ?_
  refine lv_iand hx hb dX9_missing_10 ?_
  refine lv_isub hx hb dX9_missing_11 ?_
  refine lv_iload_n hx hb dX9_missing_12 rfl (lv_at hl 0 rfl) ?_
  refine lv_iconst (v := (1 : Int32)) hx hb dX9_missing_13 (by decide) ?_
  refine lv_ishr hx hb dX9_missing_14 ?_
  refine lv_iconst (v := (1 : Int32)) hx hb dX9_missing_15 (by decide) ?_
  refine lv_iand hx hb dX9_missing_16 ?_
  refine lv_isub hx hb dX9_missing_17 ?_
  refine lv_iload_n hx hb dX9_missing_18 rfl (lv_at hl 0 rfl) ?_
  refine lv_iconst (v := (2 : Int32)) hx hb dX9_missing_19 (by decide) ?_
  refine lv_ishr hx hb dX9_missing_20 ?_
  refine lv_iconst (v := (1 : Int32)) hx hb dX9_missing_21 (by decide) ?_
  refine lv_iand hx hb dX9_missing_22 ?_
  refine lv_isub hx hb dX9_missing_23 ?_
  exact ro_iret hx hb hr hlocks dX9_missing_24 (by rw [m_X9_missing])
def m_X9_owedAt (x1 : Int32) (x2 : Int32) (x3 : Int32) (x4 : Int32) : Int32 := ((((93 : Int32) + ((45 : Int32) * x1)) + ((9 : Int32) * x2)) + ((3 : Int32) * x3)) + x4
theorem hd_X9_owedAt : yX9_owedAt.cls = RX9 ∧ yX9_owedAt.cls ≠ "java/lang/invoke/MethodHandle" ∧ yX9_owedAt.cls ≠ "java/lang/invoke/VarHandle" ∧ (parseMethodDescriptor yX9_owedAt.desc).map (fun d => d.parameters.length) = some 4 := by decide +kernel
set_option maxHeartbeats 8000000 in
set_option maxRecDepth 20000 in
theorem c_X9_owedAt (l : Launch) (D : va_G) (cy : Nat → ClassId) (x1 : Int32) (x2 : Int32) (x3 : Int32) (x4 : Int32) : RO l D cy yX9_owedAt wsX9_owedAt ({ frames := 0, cells := 0, slots := 0, locals := 0 } : Room) ([] : va_W) [.int x1, .int x2, .int x3, .int x4] (m_X9_owedAt x1 x2 x3 x4) := by
  refine RO.body (by decide) rfl (Nat.le_of_ble_eq_true rfl) ?_
  intro p e s m below meth c hx hb hml hr hts hown hlocks hP hG ls hl
  have hl : lv_has ls 4 [(0, .int x1), (1, .int x2), (2, .int x3), (3, .int x4)] := hl
  have hCF : CallFix p m c cX9_owedAt 4 s ([.int x1, .int x2, .int x3, .int x4] : List Value).toArray wsX9_owedAt RX9 := ⟨hx, hb, hml, hown, hts⟩
  refine lv_bipush (v := (93 : Int32)) hx hb dX9_owedAt_0 (by decide) ?_
  refine lv_bipush (v := (45 : Int32)) hx hb dX9_owedAt_2 (by decide) ?_
  refine lv_iload_n hx hb dX9_owedAt_4 rfl (lv_at hl 0 rfl) ?_
  refine lv_imul hx hb dX9_owedAt_5 ?_
  refine lv_iadd hx hb dX9_owedAt_6 ?_
  refine lv_bipush (v := (9 : Int32)) hx hb dX9_owedAt_7 (by decide) ?_
  refine lv_iload_n hx hb dX9_owedAt_9 rfl (lv_at hl 1 rfl) ?_
  refine lv_imul hx hb dX9_owedAt_10 ?_
  refine lv_iadd hx hb dX9_owedAt_11 ?_
  refine lv_iconst (v := (3 : Int32)) hx hb dX9_owedAt_12 (by decide) ?_
  refine lv_iload_n hx hb dX9_owedAt_13 rfl (lv_at hl 2 rfl) ?_
  refine lv_imul hx hb dX9_owedAt_14 ?_
  refine lv_iadd hx hb dX9_owedAt_15 ?_
  refine lv_iload_n hx hb dX9_owedAt_16 rfl (lv_at hl 3 rfl) ?_
  refine lv_iadd hx hb dX9_owedAt_17 ?_
  exact ro_iret hx hb hr hlocks dX9_owedAt_18 (by rw [m_X9_owedAt])
theorem iv_owedAt {a b c d : Int32} (ha : iv 0 4 a) (hb : iv 0 4 b) (hc : iv 0 2 c) (hd : iv 0 2 d) : iv 93 317 (m_X9_owedAt a b c d) := by
  unfold m_X9_owedAt
  exact iv_wide (iv_add (l := 93) (h := 317) (iv_add (l := 93) (h := 315) (iv_add (l := 93) (h := 309) (iv_add (l := 93) (h := 273) (iv_lit (v := 93) (by decide)) (iv_mul (l := 0) (h := 180) (iv_lit (v := 45) (by decide)) ha (by decide)) (by decide)) (iv_mul (l := 0) (h := 36) (iv_lit (v := 9) (by decide)) hb (by decide)) (by decide)) (iv_mul (l := 0) (h := 6) (iv_lit (v := 3) (by decide)) hc (by decide)) (by decide)) hd (by decide)) (by decide)
def m_X9_coresAt (x1 : Int32) : Int32 := (318 : Int32) + ((13 : Int32) * x1)
theorem hd_X9_coresAt : yX9_coresAt.cls = RX9 ∧ yX9_coresAt.cls ≠ "java/lang/invoke/MethodHandle" ∧ yX9_coresAt.cls ≠ "java/lang/invoke/VarHandle" ∧ (parseMethodDescriptor yX9_coresAt.desc).map (fun d => d.parameters.length) = some 1 := by decide +kernel
set_option maxHeartbeats 8000000 in
set_option maxRecDepth 20000 in
theorem c_X9_coresAt (l : Launch) (D : va_G) (cy : Nat → ClassId) (x1 : Int32) : RO l D cy yX9_coresAt wsX9_coresAt ({ frames := 0, cells := 0, slots := 0, locals := 0 } : Room) ([] : va_W) [.int x1] (m_X9_coresAt x1) := by
  refine RO.body (by decide) rfl (Nat.le_of_ble_eq_true rfl) ?_
  intro p e s m below meth c hx hb hml hr hts hown hlocks hP hG ls hl
  have hl : lv_has ls 1 [(0, .int x1)] := hl
  have hCF : CallFix p m c cX9_coresAt 1 s ([.int x1] : List Value).toArray wsX9_coresAt RX9 := ⟨hx, hb, hml, hown, hts⟩
  refine lv_sipush (v := (318 : Int32)) hx hb dX9_coresAt_0 (by decide) ?_
  refine lv_bipush (v := (13 : Int32)) hx hb dX9_coresAt_3 (by decide) ?_
  refine lv_iload_n hx hb dX9_coresAt_5 rfl (lv_at hl 0 rfl) ?_
  refine lv_imul hx hb dX9_coresAt_6 ?_
  refine lv_iadd hx hb dX9_coresAt_7 ?_
  exact ro_iret hx hb hr hlocks dX9_coresAt_8 (by rw [m_X9_coresAt])
theorem iv_coresAt {h : Int32} (hh : iv 0 4 h) : iv 318 370 (m_X9_coresAt h) := by
  unfold m_X9_coresAt
  exact iv_add (l := 318) (h := 370) (iv_lit (v := 318) (by decide)) (iv_mul (l := 0) (h := 52) (iv_lit (v := 13) (by decide)) hh (by decide)) (by decide)
theorem ix_cores {h : Int32} (hh : iv 0 4 h) : (m_X9_coresAt h).toNatClampNeg = 318 + 13 * h.toNatClampNeg := by
  have e13 : (13 : Int32).toInt = 13 := by decide
  have e318 : (318 : Int32).toInt = 318 := by decide
  have := hh.1
  have := hh.2
  have b := iv_int hh
  unfold m_X9_coresAt
  have a1 : ((13 : Int32) * h).toInt = 13 * h.toInt := by rw [i32_mul (by rw [e13]; omega) (by rw [e13]; omega), e13]
  have a2 : ((318 : Int32) + 13 * h).toInt = 318 + 13 * h.toInt := by rw [i32_add (by rw [a1, e318]; omega) (by rw [a1, e318]; omega), a1, e318]
  exact tnc_of (by omega)
theorem rk_cores {r : Nat → Int32} {h : Int32} (hR : rOK r) (hh : iv 0 4 h) : iv 0 6 (r (m_X9_coresAt h).toNatClampNeg) := by
  rw [ix_cores hh]
  exact hR.2.2 _ (iv_tnc (n := 5) hh (by decide))
theorem rok_free88 {r : Nat → Int32} {i v : Int32} (hR : rOK r) (h : iv 88 317 i) : rOK (upd r i.toNatClampNeg v) := by
  have h1 := h.1
  have h2 := h.2
  have b := iv_int (iv_wide (l2 := 0) (h2 := 317) h (by decide))
  exact rok_free hR (by omega)
def m_X9_late (r : (Nat → Int32)) (x1 : Int32) (x2 : Int32) : Int32 := if (((r (0 : Int32).toNatClampNeg) + x2) - x1) ≤ (0 : Int32) then (0 : Int32) else (((r (0 : Int32).toNatClampNeg) + x2) - x1) * (r (2 : Int32).toNatClampNeg)
theorem hd_X9_late : yX9_late.cls = RX9 ∧ yX9_late.cls ≠ "java/lang/invoke/MethodHandle" ∧ yX9_late.cls ≠ "java/lang/invoke/VarHandle" ∧ (parseMethodDescriptor yX9_late.desc).map (fun d => d.parameters.length) = some 3 := by decide +kernel
set_option maxHeartbeats 8000000 in
set_option maxRecDepth 20000 in
theorem c_X9_late (l : Launch) (D : va_G) (cy : Nat → ClassId) (a0 : Nat) (r : (Nat → Int32)) (x1 : Int32) (x2 : Int32) : RO l D cy yX9_late wsX9_late ({ frames := 0, cells := 0, slots := 0, locals := 0 } : Room) (wAr cy a0 r) [.ref a0, .int x1, .int x2] (m_X9_late r x1 x2) := by
  refine RO.body (by decide) rfl (Nat.le_of_ble_eq_true rfl) ?_
  intro p e s m below meth c hx hb hml hr hts hown hlocks hP hG ls hl
  have hl : lv_has ls 4 [(0, .ref a0), (1, .int x1), (2, .int x2)] := hl
  have hCF : CallFix p m c cX9_late 4 s ([.ref a0, .int x1, .int x2] : List Value).toArray wsX9_late RX9 := ⟨hx, hb, hml, hown, hts⟩
  refine lv_aload_n hx hb dX9_late_0 rfl (lv_at hl 0 rfl) ?_
  refine lv_iconst (v := (0 : Int32)) hx hb dX9_late_1 (by decide) ?_
  refine va_iald hx hb hG.1 hP 0 0 (n := 383) (f := r) g_Ar_0 rfl (bd_of (by decide) (by decide)) dX9_late_2 ?_
  refine lv_iload_n hx hb dX9_late_3 rfl (lv_at hl 2 rfl) ?_
  refine lv_iadd hx hb dX9_late_4 ?_
  refine lv_iload_n hx hb dX9_late_5 rfl (lv_at hl 1 rfl) ?_
  refine lv_isub hx hb dX9_late_6 ?_
  refine lv_istore_n (lv' := [(3, .int (((r (0 : Int32).toNatClampNeg) + x2) - x1)), (0, .ref a0), (1, .int x1), (2, .int x2)]) hx hb dX9_late_7 rfl hl (by decide) rfl (fun ls hl => ?_)
  refine lv_iload_n hx hb dX9_late_8 rfl (lv_at hl 0 rfl) ?_
  refine lv_if_le (tgt := 20) hx hb dX9_late_9 (by decide) (fun c_1 => ?_) (fun c_1 => ?_)
  · skip
    refine lv_iconst (v := (0 : Int32)) hx hb dX9_late_20 (by decide) ?_
    exact ro_iret hx hb hr hlocks dX9_late_21 (by rw [m_X9_late, if_pos c_1])
  · skip
    refine lv_iload_n hx hb dX9_late_12 rfl (lv_at hl 0 rfl) ?_
    refine lv_aload_n hx hb dX9_late_13 rfl (lv_at hl 1 rfl) ?_
    refine lv_iconst (v := (2 : Int32)) hx hb dX9_late_14 (by decide) ?_
    refine va_iald hx hb hG.1 hP 0 0 (n := 383) (f := r) g_Ar_0 rfl (bd_of (by decide) (by decide)) dX9_late_15 ?_
    refine lv_imul hx hb dX9_late_16 ?_
    refine lv_goto (tgt := 21) hx hb dX9_late_17 (by decide) ?_
    exact ro_iret hx hb hr hlocks dX9_late_21 (by rw [m_X9_late, if_neg c_1])
def m_X9_lateOf (r : (Nat → Int32)) (x1 : Int32) (x2 : Int32) : Int32 := if (m_X9_isFree r x1) = (0 : Int32) then m_X9_late r (m_X9_of r x1 (4 : Int32)) x2 else (0 : Int32)
theorem hd_X9_lateOf : yX9_lateOf.cls = RX9 ∧ yX9_lateOf.cls ≠ "java/lang/invoke/MethodHandle" ∧ yX9_lateOf.cls ≠ "java/lang/invoke/VarHandle" ∧ (parseMethodDescriptor yX9_lateOf.desc).map (fun d => d.parameters.length) = some 3 := by decide +kernel
set_option maxHeartbeats 8000000 in
set_option maxRecDepth 20000 in
theorem c_X9_lateOf (l : Launch) (D : va_G) (cy : Nat → ClassId) (a0 : Nat) (r : (Nat → Int32)) (x1 : Int32) (x2 : Int32) (h_x1 : iv 0 15 x1) : RO l D cy yX9_lateOf wsX9_lateOf ({ frames := 2, cells := 0, slots := 0, locals := 43 } : Room) (wAr cy a0 r) [.ref a0, .int x1, .int x2] (m_X9_lateOf r x1 x2) := by
  refine RO.body (by decide) rfl (Nat.le_of_ble_eq_true rfl) ?_
  intro p e s m below meth c hx hb hml hr hts hown hlocks hP hG ls hl
  have hl : lv_has ls 3 [(0, .ref a0), (1, .int x1), (2, .int x2)] := hl
  have hCF : CallFix p m c cX9_lateOf 3 s ([.ref a0, .int x1, .int x2] : List Value).toArray wsX9_lateOf RX9 := ⟨hx, hb, hml, hown, hts⟩
  refine lv_aload_n hx hb dX9_lateOf_0 rfl (lv_at hl 0 rfl) ?_
  refine lv_iload_n hx hb dX9_lateOf_1 rfl (lv_at hl 1 rfl) ?_
  refine roS (wc := (wAr cy a0 r)) (As := [.ref a0, .int x1]) (rest := []) (c_X9_isFree l D cy a0 r x1 h_x1) hCF gX9_lateOf_X9_isFree rfl hd_X9_isFree ⟨rfl, rfl, Nat.le_of_ble_eq_true rfl, Nat.le_of_ble_eq_true rfl⟩ hG hP rfl hl.1 rfl (Nat.le_of_ble_eq_true rfl) dX9_lateOf_2 ⟨Nat.le_refl _, Nat.le_refl _⟩ ?_
  refine lv_if_eq (tgt := 12) hx hb dX9_lateOf_5 (by decide) (fun c_1 => ?_) (fun c_1 => ?_)
  · skip
    refine lv_aload_n hx hb dX9_lateOf_12 rfl (lv_at hl 0 rfl) ?_
    refine lv_aload_n hx hb dX9_lateOf_13 rfl (lv_at hl 0 rfl) ?_
    refine lv_iload_n hx hb dX9_lateOf_14 rfl (lv_at hl 1 rfl) ?_
    refine lv_iconst (v := (4 : Int32)) hx hb dX9_lateOf_15 (by decide) ?_
    refine roS (wc := (wAr cy a0 r)) (As := [.ref a0, .int x1, .int (4 : Int32)]) (rest := [.ref a0]) (c_X9_of l D cy a0 r x1 (4 : Int32) h_x1 (iv_wide (l2 := 0) (h2 := 4) (iv_lit (v := 4) (by decide)) (by decide))) hCF gX9_lateOf_X9_of rfl hd_X9_of ⟨rfl, rfl, Nat.le_of_ble_eq_true rfl, Nat.le_of_ble_eq_true rfl⟩ hG hP rfl hl.1 rfl (Nat.le_of_ble_eq_true rfl) dX9_lateOf_16 ⟨Nat.le_refl _, Nat.le_refl _⟩ ?_
    refine lv_iload_n hx hb dX9_lateOf_19 rfl (lv_at hl 2 rfl) ?_
    refine roS (wc := (wAr cy a0 r)) (As := [.ref a0, .int (m_X9_of r x1 (4 : Int32)), .int x2]) (rest := []) (c_X9_late l D cy a0 r (m_X9_of r x1 (4 : Int32)) x2) hCF gX9_lateOf_X9_late rfl hd_X9_late ⟨rfl, rfl, Nat.le_of_ble_eq_true rfl, Nat.le_of_ble_eq_true rfl⟩ hG hP rfl hl.1 rfl (Nat.le_of_ble_eq_true rfl) dX9_lateOf_20 ⟨Nat.le_refl _, Nat.le_refl _⟩ ?_
    exact ro_iret hx hb hr hlocks dX9_lateOf_23 (by rw [m_X9_lateOf, if_pos c_1])
  · skip
    refine lv_iconst (v := (0 : Int32)) hx hb dX9_lateOf_8 (by decide) ?_
    refine lv_goto (tgt := 23) hx hb dX9_lateOf_9 (by decide) ?_
    exact ro_iret hx hb hr hlocks dX9_lateOf_23 (by rw [m_X9_lateOf, if_neg c_1])
def m_X9_pays (r : (Nat → Int32)) (x1 : Int32) (x2 : Int32) (x3 : Int32) : (Nat → Int32) := upd (upd r ((88 : Int32) + x1).toNatClampNeg ((r ((88 : Int32) + x1).toNatClampNeg) - x3)) ((88 : Int32) + x2).toNatClampNeg (((upd r ((88 : Int32) + x1).toNatClampNeg ((r ((88 : Int32) + x1).toNatClampNeg) - x3)) ((88 : Int32) + x2).toNatClampNeg) + x3)
theorem hd_X9_pays : yX9_pays.cls = RX9 ∧ yX9_pays.cls ≠ "java/lang/invoke/MethodHandle" ∧ yX9_pays.cls ≠ "java/lang/invoke/VarHandle" ∧ (parseMethodDescriptor yX9_pays.desc).map (fun d => d.parameters.length) = some 4 := by decide +kernel
set_option maxHeartbeats 8000000 in
set_option maxRecDepth 20000 in
theorem c_X9_pays (l : Launch) (D : va_G) (cy : Nat → ClassId) (a0 : Nat) (r : (Nat → Int32)) (x1 : Int32) (x2 : Int32) (x3 : Int32) (h_x1 : iv 0 4 x1) (h_x2 : iv 0 4 x2) : MV l D cy yX9_pays wsX9_pays ({ frames := 0, cells := 0, slots := 0, locals := 0 } : Room) (wAr cy a0 r) (wAr cy a0 (m_X9_pays r x1 x2 x3)) [.ref a0, .int x1, .int x2, .int x3] := by
  refine MV.body (by decide) rfl (Nat.le_of_ble_eq_true rfl) ?_
  intro p e s m below meth c hx hb hml hr hts hown hlocks hP hG ls hl A hD hA hS
  have hl : lv_has ls 4 [(0, .ref a0), (1, .int x1), (2, .int x2), (3, .int x3)] := hl
  have hCF : CallFix p m c cX9_pays 4 s ([.ref a0, .int x1, .int x2, .int x3] : List Value).toArray wsX9_pays RX9 := ⟨hx, hb, hml, hown, hts⟩
  have hP : va_P D vwCl (wAr cy a0 r) s.heap := hP
  refine lv_aload_n hx hb dX9_pays_0 rfl (lv_at hl 0 rfl) ?_
  refine lv_bipush (v := (88 : Int32)) hx hb dX9_pays_1 (by decide) ?_
  refine lv_iload_n hx hb dX9_pays_3 rfl (lv_at hl 1 rfl) ?_
  refine lv_iadd hx hb dX9_pays_4 ?_
  refine lv_dup2_11 hx hb dX9_pays_5 rfl rfl ?_
  refine va_iald hx hb hG.1 hP 0 0 (n := 383) (f := r) g_Ar_0 rfl (iv_in (iv_add (l := 88) (h := 92) (iv_lit (v := 88) (by decide)) h_x1 (by decide)) (by decide) (by decide)) dX9_pays_6 ?_
  refine lv_iload_n hx hb dX9_pays_7 rfl (lv_at hl 3 rfl) ?_
  refine lv_isub hx hb dX9_pays_8 ?_
  refine va_iast hx hb hG.1 hP hD hS 0 0 (n := 383) (f := r) g_Ar_0 rfl (iv_in (iv_add (l := 88) (h := 92) (iv_lit (v := 88) (by decide)) h_x1 (by decide)) (by decide) (by decide)) dX9_pays_9 (fun H locs hP hD hS => ?_)
  have hP : va_P D vwCl (wAr cy a0 (upd r ((88 : Int32) + x1).toNatClampNeg ((r ((88 : Int32) + x1).toNatClampNeg) - x3))) H := va_P_eq hP s_Ar_0
  have hD : va_D A (wAr cy a0 (upd r ((88 : Int32) + x1).toNatClampNeg ((r ((88 : Int32) + x1).toNatClampNeg) - x3))) := va_D_eq hD s_Ar_0
  refine lv_aload_n hx hb dX9_pays_10 rfl (lv_at hl 0 rfl) ?_
  refine lv_bipush (v := (88 : Int32)) hx hb dX9_pays_11 (by decide) ?_
  refine lv_iload_n hx hb dX9_pays_13 rfl (lv_at hl 2 rfl) ?_
  refine lv_iadd hx hb dX9_pays_14 ?_
  refine lv_dup2_11 hx hb dX9_pays_15 rfl rfl ?_
  refine va_iald hx hb hG.1 hP 0 0 (n := 383) (f := (upd r ((88 : Int32) + x1).toNatClampNeg ((r ((88 : Int32) + x1).toNatClampNeg) - x3))) g_Ar_0 rfl (iv_in (iv_add (l := 88) (h := 92) (iv_lit (v := 88) (by decide)) h_x2 (by decide)) (by decide) (by decide)) dX9_pays_16 ?_
  refine lv_iload_n hx hb dX9_pays_17 rfl (lv_at hl 3 rfl) ?_
  refine lv_iadd hx hb dX9_pays_18 ?_
  refine va_iast hx hb hG.1 hP hD hS 0 0 (n := 383) (f := (upd r ((88 : Int32) + x1).toNatClampNeg ((r ((88 : Int32) + x1).toNatClampNeg) - x3))) g_Ar_0 rfl (iv_in (iv_add (l := 88) (h := 92) (iv_lit (v := 88) (by decide)) h_x2 (by decide)) (by decide) (by decide)) dX9_pays_19 (fun H locs hP hD hS => ?_)
  have hP : va_P D vwCl (wAr cy a0 (upd (upd r ((88 : Int32) + x1).toNatClampNeg ((r ((88 : Int32) + x1).toNatClampNeg) - x3)) ((88 : Int32) + x2).toNatClampNeg (((upd r ((88 : Int32) + x1).toNatClampNeg ((r ((88 : Int32) + x1).toNatClampNeg) - x3)) ((88 : Int32) + x2).toNatClampNeg) + x3))) H := va_P_eq hP s_Ar_0
  have hD : va_D A (wAr cy a0 (upd (upd r ((88 : Int32) + x1).toNatClampNeg ((r ((88 : Int32) + x1).toNatClampNeg) - x3)) ((88 : Int32) + x2).toNatClampNeg (((upd r ((88 : Int32) + x1).toNatClampNeg ((r ((88 : Int32) + x1).toNatClampNeg) - x3)) ((88 : Int32) + x2).toNatClampNeg) + x3))) := va_D_eq hD s_Ar_0
  exact mu_vret hx hb hr hlocks hP hS dX9_pays_20 (by rw [m_X9_pays])
def m_X9_whyNotCome (r : (Nat → Int32)) (x1 : Int32) (x2 : Int32) (x3 : Int32) : Int32 := if (m_X9_isKind x1) = (0 : Int32) then (1 : Int32) else if (m_X9_isHolder x2) = (0 : Int32) then (1 : Int32) else if (m_X9_in x3.toInt64 (0 : Int64) (7 : Int64)) = (0 : Int32) then (2 : Int32) else if (r (1 : Int32).toNatClampNeg) = (16 : Int32) then (3 : Int32) else (0 : Int32)
theorem hd_X9_whyNotCome : yX9_whyNotCome.cls = RX9 ∧ yX9_whyNotCome.cls ≠ "java/lang/invoke/MethodHandle" ∧ yX9_whyNotCome.cls ≠ "java/lang/invoke/VarHandle" ∧ (parseMethodDescriptor yX9_whyNotCome.desc).map (fun d => d.parameters.length) = some 4 := by decide +kernel
set_option maxHeartbeats 8000000 in
set_option maxRecDepth 20000 in
theorem c_X9_whyNotCome (l : Launch) (D : va_G) (cy : Nat → ClassId) (a0 : Nat) (r : (Nat → Int32)) (x1 : Int32) (x2 : Int32) (x3 : Int32) : RO l D cy yX9_whyNotCome wsX9_whyNotCome ({ frames := 2, cells := 0, slots := 0, locals := 45 } : Room) (wAr cy a0 r) [.ref a0, .int x1, .int x2, .int x3] (m_X9_whyNotCome r x1 x2 x3) := by
  refine RO.body (by decide) rfl (Nat.le_of_ble_eq_true rfl) ?_
  intro p e s m below meth c hx hb hml hr hts hown hlocks hP hG ls hl
  have hl : lv_has ls 4 [(0, .ref a0), (1, .int x1), (2, .int x2), (3, .int x3)] := hl
  have hCF : CallFix p m c cX9_whyNotCome 4 s ([.ref a0, .int x1, .int x2, .int x3] : List Value).toArray wsX9_whyNotCome RX9 := ⟨hx, hb, hml, hown, hts⟩
  have k_0 := hts (Cond.constantLong RX9 63 (7)) (List.mem_of_getElem? (i := 1) rfl)
  refine lv_iload_n hx hb dX9_whyNotCome_0 rfl (lv_at hl 1 rfl) ?_
  refine roS (wc := ([] : va_W)) (As := [.int x1]) (rest := []) (c_X9_isKind l D cy x1) hCF gX9_whyNotCome_X9_isKind rfl hd_X9_isKind ⟨rfl, rfl, Nat.le_of_ble_eq_true rfl, Nat.le_of_ble_eq_true rfl⟩ hG va_P_nil rfl hl.1 rfl (Nat.le_of_ble_eq_true rfl) dX9_whyNotCome_1 ⟨Nat.le_refl _, Nat.le_refl _⟩ ?_
  refine lv_if_eq (tgt := 14) hx hb dX9_whyNotCome_4 (by decide) (fun c_1 => ?_) (fun c_1 => ?_)
  · skip
    refine lv_iconst (v := (1 : Int32)) hx hb dX9_whyNotCome_14 (by decide) ?_
    refine lv_goto (tgt := 47) hx hb dX9_whyNotCome_15 (by decide) ?_
    exact ro_iret hx hb hr hlocks dX9_whyNotCome_47 (by rw [m_X9_whyNotCome, if_pos c_1])
  · skip
    refine lv_iload_n hx hb dX9_whyNotCome_7 rfl (lv_at hl 2 rfl) ?_
    refine roS (wc := ([] : va_W)) (As := [.int x2]) (rest := []) (c_X9_isHolder l D cy x2) hCF gX9_whyNotCome_X9_isHolder rfl hd_X9_isHolder ⟨rfl, rfl, Nat.le_of_ble_eq_true rfl, Nat.le_of_ble_eq_true rfl⟩ hG va_P_nil rfl hl.1 rfl (Nat.le_of_ble_eq_true rfl) dX9_whyNotCome_8 ⟨Nat.le_refl _, Nat.le_refl _⟩ ?_
    refine lv_if_ne (tgt := 18) hx hb dX9_whyNotCome_11 (by decide) (fun c_2 => ?_) (fun c_2 => ?_)
    · skip
      refine lv_iload_n hx hb dX9_whyNotCome_18 rfl (lv_at hl 3 rfl) ?_
      refine lv_i2l hx hb dX9_whyNotCome_19 rfl ?_
      refine lv_lconst (v := (0 : Int64)) hx hb dX9_whyNotCome_20 (by decide) ?_
      refine lv_ldc2 (v := (7 : Int64)) hx hb hown k_0 dX9_whyNotCome_21 ?_
      refine roS (wc := ([] : va_W)) (As := [.long x3.toInt64, .long (0 : Int64), .long (7 : Int64)]) (rest := []) (c_X9_in l D cy x3.toInt64 (0 : Int64) (7 : Int64)) hCF gX9_whyNotCome_X9_in rfl hd_X9_in ⟨rfl, rfl, Nat.le_of_ble_eq_true rfl, Nat.le_of_ble_eq_true rfl⟩ hG va_P_nil rfl hl.1 rfl (Nat.le_of_ble_eq_true rfl) dX9_whyNotCome_24 ⟨Nat.le_refl _, Nat.le_refl _⟩ ?_
      refine lv_if_ne (tgt := 34) hx hb dX9_whyNotCome_27 (by decide) (fun c_3 => ?_) (fun c_3 => ?_)
      · skip
        refine lv_aload_n hx hb dX9_whyNotCome_34 rfl (lv_at hl 0 rfl) ?_
        refine lv_iconst (v := (1 : Int32)) hx hb dX9_whyNotCome_35 (by decide) ?_
        refine va_iald hx hb hG.1 hP 0 0 (n := 383) (f := r) g_Ar_0 rfl (bd_of (by decide) (by decide)) dX9_whyNotCome_36 ?_
        refine lv_bipush (v := (16 : Int32)) hx hb dX9_whyNotCome_37 (by decide) ?_
        refine lv_icmp_ne (tgt := 46) hx hb dX9_whyNotCome_39 (by decide) (fun c_4 => ?_) (fun c_4 => ?_)
        · skip
          refine lv_iconst (v := (0 : Int32)) hx hb dX9_whyNotCome_46 (by decide) ?_
          exact ro_iret hx hb hr hlocks dX9_whyNotCome_47 (by rw [m_X9_whyNotCome, if_neg c_1, if_neg c_2, if_neg c_3, if_neg c_4])
        · skip
          refine lv_iconst (v := (3 : Int32)) hx hb dX9_whyNotCome_42 (by decide) ?_
          refine lv_goto (tgt := 47) hx hb dX9_whyNotCome_43 (by decide) ?_
          exact ro_iret hx hb hr hlocks dX9_whyNotCome_47 (by rw [m_X9_whyNotCome, if_neg c_1, if_neg c_2, if_neg c_3, if_pos c_4])
      · skip
        refine lv_iconst (v := (2 : Int32)) hx hb dX9_whyNotCome_30 (by decide) ?_
        refine lv_goto (tgt := 47) hx hb dX9_whyNotCome_31 (by decide) ?_
        exact ro_iret hx hb hr hlocks dX9_whyNotCome_47 (by rw [m_X9_whyNotCome, if_neg c_1, if_neg c_2, if_pos c_3])
    · skip
      refine lv_iconst (v := (1 : Int32)) hx hb dX9_whyNotCome_14 (by decide) ?_
      refine lv_goto (tgt := 47) hx hb dX9_whyNotCome_15 (by decide) ?_
      exact ro_iret hx hb hr hlocks dX9_whyNotCome_47 (by rw [m_X9_whyNotCome, if_neg c_1, if_pos c_2])
theorem wn_nn_Come (r : Nat → Int32) (x1 x2 x3 : Int32) : 0 ≤ (m_X9_whyNotCome r x1 x2 x3).toInt := by
  unfold m_X9_whyNotCome
  repeat' split
  all_goals decide
theorem wn_Come_n {r : Nat → Int32} {x1 x2 x3 : Int32} (hR : rOK r) (c : m_X9_whyNotCome r x1 x2 x3 = 0) : iv 0 15 (r (1 : Int32).toNatClampNeg) := by
  unfold m_X9_whyNotCome at c
  split at c
  · exact absurd c (by decide)
  split at c
  · exact absurd c (by decide)
  split at c
  · exact absurd c (by decide)
  split at c
  · exact absurd c (by decide)
  rename_i h4
  have h1 := rk_many hR
  have h5 : ¬ (r (1 : Int32).toNatClampNeg).toInt = 16 := fun q => h4 (Int32.toInt_inj.mp (by rw [q]; decide))
  exact ⟨h1.1, by have := h1.2; omega⟩
def m_X9_comeOn (r : (Nat → Int32)) (x1 : Int32) (x2 : Int32) (x3 : Int32) : Int32 × (Nat → Int32) := (r (1 : Int32).toNatClampNeg, upd (m_X9_lay (m_X9_lay (m_X9_lay (m_X9_lay (m_X9_lay r (r (1 : Int32).toNatClampNeg) (0 : Int32) x1) (r (1 : Int32).toNatClampNeg) (1 : Int32) x2) (r (1 : Int32).toNatClampNeg) (2 : Int32) x2) (r (1 : Int32).toNatClampNeg) (3 : Int32) x3) (r (1 : Int32).toNatClampNeg) (4 : Int32) (0 : Int32)) (1 : Int32).toNatClampNeg (((m_X9_lay (m_X9_lay (m_X9_lay (m_X9_lay (m_X9_lay r (r (1 : Int32).toNatClampNeg) (0 : Int32) x1) (r (1 : Int32).toNatClampNeg) (1 : Int32) x2) (r (1 : Int32).toNatClampNeg) (2 : Int32) x2) (r (1 : Int32).toNatClampNeg) (3 : Int32) x3) (r (1 : Int32).toNatClampNeg) (4 : Int32) (0 : Int32)) (1 : Int32).toNatClampNeg) + (1 : Int32)))
theorem hd_X9_comeOn : yX9_comeOn.cls = RX9 ∧ yX9_comeOn.cls ≠ "java/lang/invoke/MethodHandle" ∧ yX9_comeOn.cls ≠ "java/lang/invoke/VarHandle" ∧ (parseMethodDescriptor yX9_comeOn.desc).map (fun d => d.parameters.length) = some 4 := by decide +kernel
set_option maxHeartbeats 8000000 in
set_option maxRecDepth 20000 in
theorem c_X9_comeOn (l : Launch) (D : va_G) (cy : Nat → ClassId) (a0 : Nat) (r : (Nat → Int32)) (x1 : Int32) (x2 : Int32) (x3 : Int32) (hm : iv 0 15 (r (1 : Int32).toNatClampNeg)) : MU l D cy yX9_comeOn wsX9_comeOn ({ frames := 1, cells := 0, slots := 0, locals := 23 } : Room) (wAr cy a0 r) (wAr cy a0 (m_X9_comeOn r x1 x2 x3).2) [.ref a0, .int x1, .int x2, .int x3] (m_X9_comeOn r x1 x2 x3).1 := by
  refine MU.body (by decide) rfl (Nat.le_of_ble_eq_true rfl) ?_
  intro p e s m below meth c hx hb hml hr hts hown hlocks hP hG ls hl A hD hA hS
  have hl : lv_has ls 5 [(0, .ref a0), (1, .int x1), (2, .int x2), (3, .int x3)] := hl
  have hCF : CallFix p m c cX9_comeOn 5 s ([.ref a0, .int x1, .int x2, .int x3] : List Value).toArray wsX9_comeOn RX9 := ⟨hx, hb, hml, hown, hts⟩
  have hP : va_P D vwCl (wAr cy a0 r) s.heap := hP
  refine lv_aload_n hx hb dX9_comeOn_0 rfl (lv_at hl 0 rfl) ?_
  refine lv_iconst (v := (1 : Int32)) hx hb dX9_comeOn_1 (by decide) ?_
  refine va_iald hx hb hG.1 hP 0 0 (n := 383) (f := r) g_Ar_0 rfl (bd_of (by decide) (by decide)) dX9_comeOn_2 ?_
  refine lv_istore (lv' := [(4, .int (r (1 : Int32).toNatClampNeg)), (0, .ref a0), (1, .int x1), (2, .int x2), (3, .int x3)]) hx hb dX9_comeOn_3 hl (by decide) rfl (fun ls hl => ?_)
  refine lv_aload_n hx hb dX9_comeOn_5 rfl (lv_at hl 1 rfl) ?_
  refine lv_iload hx hb dX9_comeOn_6 (lv_at hl 0 rfl) ?_
  refine lv_iconst (v := (0 : Int32)) hx hb dX9_comeOn_8 (by decide) ?_
  refine lv_iload_n hx hb dX9_comeOn_9 rfl (lv_at hl 2 rfl) ?_
  refine mvS (A0 := A) (wc := (wAr cy a0 r)) (As := [.ref a0, .int (r (1 : Int32).toNatClampNeg), .int (0 : Int32), .int x1]) (rest := []) (c_X9_lay l D cy a0 r (r (1 : Int32).toNatClampNeg) (0 : Int32) x1 hm (iv_wide (l2 := 0) (h2 := 4) (iv_lit (v := 0) (by decide)) (by decide))) hCF gX9_comeOn_X9_lay rfl hd_X9_lay ⟨rfl, rfl, Nat.le_of_ble_eq_true rfl, Nat.le_of_ble_eq_true rfl⟩ hG hP hD hS hA [0] rfl c_Ar_Ar h_Ar rfl hl.1 rfl (Nat.le_of_ble_eq_true rfl) dX9_comeOn_10 ⟨Nat.le_refl _, Nat.le_refl _⟩ (fun H locs hP hD hS => ?_)
  have hP : va_P D vwCl (wAr cy a0 (m_X9_lay r (r (1 : Int32).toNatClampNeg) (0 : Int32) x1)) H := va_P_eq hP r_Ar_Ar
  have hD : va_D A (wAr cy a0 (m_X9_lay r (r (1 : Int32).toNatClampNeg) (0 : Int32) x1)) := va_D_eq hD r_Ar_Ar
  refine lv_aload_n hx hb dX9_comeOn_13 rfl (lv_at hl 1 rfl) ?_
  refine lv_iload hx hb dX9_comeOn_14 (lv_at hl 0 rfl) ?_
  refine lv_iconst (v := (1 : Int32)) hx hb dX9_comeOn_16 (by decide) ?_
  refine lv_iload_n hx hb dX9_comeOn_17 rfl (lv_at hl 3 rfl) ?_
  refine mvS (A0 := A) (wc := (wAr cy a0 (m_X9_lay r (r (1 : Int32).toNatClampNeg) (0 : Int32) x1))) (As := [.ref a0, .int (r (1 : Int32).toNatClampNeg), .int (1 : Int32), .int x2]) (rest := []) (c_X9_lay l D cy a0 (m_X9_lay r (r (1 : Int32).toNatClampNeg) (0 : Int32) x1) (r (1 : Int32).toNatClampNeg) (1 : Int32) x2 hm (iv_wide (l2 := 0) (h2 := 4) (iv_lit (v := 1) (by decide)) (by decide))) hCF gX9_comeOn_X9_lay rfl hd_X9_lay ⟨rfl, rfl, Nat.le_of_ble_eq_true rfl, Nat.le_of_ble_eq_true rfl⟩ hG hP hD hS hA [0] rfl c_Ar_Ar h_Ar rfl hl.1 rfl (Nat.le_of_ble_eq_true rfl) dX9_comeOn_18 ⟨Nat.le_refl _, Nat.le_refl _⟩ (fun H locs hP hD hS => ?_)
  have hP : va_P D vwCl (wAr cy a0 (m_X9_lay (m_X9_lay r (r (1 : Int32).toNatClampNeg) (0 : Int32) x1) (r (1 : Int32).toNatClampNeg) (1 : Int32) x2)) H := va_P_eq hP r_Ar_Ar
  have hD : va_D A (wAr cy a0 (m_X9_lay (m_X9_lay r (r (1 : Int32).toNatClampNeg) (0 : Int32) x1) (r (1 : Int32).toNatClampNeg) (1 : Int32) x2)) := va_D_eq hD r_Ar_Ar
  refine lv_aload_n hx hb dX9_comeOn_21 rfl (lv_at hl 1 rfl) ?_
  refine lv_iload hx hb dX9_comeOn_22 (lv_at hl 0 rfl) ?_
  refine lv_iconst (v := (2 : Int32)) hx hb dX9_comeOn_24 (by decide) ?_
  refine lv_iload_n hx hb dX9_comeOn_25 rfl (lv_at hl 3 rfl) ?_
  refine mvS (A0 := A) (wc := (wAr cy a0 (m_X9_lay (m_X9_lay r (r (1 : Int32).toNatClampNeg) (0 : Int32) x1) (r (1 : Int32).toNatClampNeg) (1 : Int32) x2))) (As := [.ref a0, .int (r (1 : Int32).toNatClampNeg), .int (2 : Int32), .int x2]) (rest := []) (c_X9_lay l D cy a0 (m_X9_lay (m_X9_lay r (r (1 : Int32).toNatClampNeg) (0 : Int32) x1) (r (1 : Int32).toNatClampNeg) (1 : Int32) x2) (r (1 : Int32).toNatClampNeg) (2 : Int32) x2 hm (iv_wide (l2 := 0) (h2 := 4) (iv_lit (v := 2) (by decide)) (by decide))) hCF gX9_comeOn_X9_lay rfl hd_X9_lay ⟨rfl, rfl, Nat.le_of_ble_eq_true rfl, Nat.le_of_ble_eq_true rfl⟩ hG hP hD hS hA [0] rfl c_Ar_Ar h_Ar rfl hl.1 rfl (Nat.le_of_ble_eq_true rfl) dX9_comeOn_26 ⟨Nat.le_refl _, Nat.le_refl _⟩ (fun H locs hP hD hS => ?_)
  have hP : va_P D vwCl (wAr cy a0 (m_X9_lay (m_X9_lay (m_X9_lay r (r (1 : Int32).toNatClampNeg) (0 : Int32) x1) (r (1 : Int32).toNatClampNeg) (1 : Int32) x2) (r (1 : Int32).toNatClampNeg) (2 : Int32) x2)) H := va_P_eq hP r_Ar_Ar
  have hD : va_D A (wAr cy a0 (m_X9_lay (m_X9_lay (m_X9_lay r (r (1 : Int32).toNatClampNeg) (0 : Int32) x1) (r (1 : Int32).toNatClampNeg) (1 : Int32) x2) (r (1 : Int32).toNatClampNeg) (2 : Int32) x2)) := va_D_eq hD r_Ar_Ar
  refine lv_aload_n hx hb dX9_comeOn_29 rfl (lv_at hl 1 rfl) ?_
  refine lv_iload hx hb dX9_comeOn_30 (lv_at hl 0 rfl) ?_
  refine lv_iconst (v := (3 : Int32)) hx hb dX9_comeOn_32 (by decide) ?_
  refine lv_iload_n hx hb dX9_comeOn_33 rfl (lv_at hl 4 rfl) ?_
  refine mvS (A0 := A) (wc := (wAr cy a0 (m_X9_lay (m_X9_lay (m_X9_lay r (r (1 : Int32).toNatClampNeg) (0 : Int32) x1) (r (1 : Int32).toNatClampNeg) (1 : Int32) x2) (r (1 : Int32).toNatClampNeg) (2 : Int32) x2))) (As := [.ref a0, .int (r (1 : Int32).toNatClampNeg), .int (3 : Int32), .int x3]) (rest := []) (c_X9_lay l D cy a0 (m_X9_lay (m_X9_lay (m_X9_lay r (r (1 : Int32).toNatClampNeg) (0 : Int32) x1) (r (1 : Int32).toNatClampNeg) (1 : Int32) x2) (r (1 : Int32).toNatClampNeg) (2 : Int32) x2) (r (1 : Int32).toNatClampNeg) (3 : Int32) x3 hm (iv_wide (l2 := 0) (h2 := 4) (iv_lit (v := 3) (by decide)) (by decide))) hCF gX9_comeOn_X9_lay rfl hd_X9_lay ⟨rfl, rfl, Nat.le_of_ble_eq_true rfl, Nat.le_of_ble_eq_true rfl⟩ hG hP hD hS hA [0] rfl c_Ar_Ar h_Ar rfl hl.1 rfl (Nat.le_of_ble_eq_true rfl) dX9_comeOn_34 ⟨Nat.le_refl _, Nat.le_refl _⟩ (fun H locs hP hD hS => ?_)
  have hP : va_P D vwCl (wAr cy a0 (m_X9_lay (m_X9_lay (m_X9_lay (m_X9_lay r (r (1 : Int32).toNatClampNeg) (0 : Int32) x1) (r (1 : Int32).toNatClampNeg) (1 : Int32) x2) (r (1 : Int32).toNatClampNeg) (2 : Int32) x2) (r (1 : Int32).toNatClampNeg) (3 : Int32) x3)) H := va_P_eq hP r_Ar_Ar
  have hD : va_D A (wAr cy a0 (m_X9_lay (m_X9_lay (m_X9_lay (m_X9_lay r (r (1 : Int32).toNatClampNeg) (0 : Int32) x1) (r (1 : Int32).toNatClampNeg) (1 : Int32) x2) (r (1 : Int32).toNatClampNeg) (2 : Int32) x2) (r (1 : Int32).toNatClampNeg) (3 : Int32) x3)) := va_D_eq hD r_Ar_Ar
  refine lv_aload_n hx hb dX9_comeOn_37 rfl (lv_at hl 1 rfl) ?_
  refine lv_iload hx hb dX9_comeOn_38 (lv_at hl 0 rfl) ?_
  refine lv_iconst (v := (4 : Int32)) hx hb dX9_comeOn_40 (by decide) ?_
  refine lv_iconst (v := (0 : Int32)) hx hb dX9_comeOn_41 (by decide) ?_
  refine mvS (A0 := A) (wc := (wAr cy a0 (m_X9_lay (m_X9_lay (m_X9_lay (m_X9_lay r (r (1 : Int32).toNatClampNeg) (0 : Int32) x1) (r (1 : Int32).toNatClampNeg) (1 : Int32) x2) (r (1 : Int32).toNatClampNeg) (2 : Int32) x2) (r (1 : Int32).toNatClampNeg) (3 : Int32) x3))) (As := [.ref a0, .int (r (1 : Int32).toNatClampNeg), .int (4 : Int32), .int (0 : Int32)]) (rest := []) (c_X9_lay l D cy a0 (m_X9_lay (m_X9_lay (m_X9_lay (m_X9_lay r (r (1 : Int32).toNatClampNeg) (0 : Int32) x1) (r (1 : Int32).toNatClampNeg) (1 : Int32) x2) (r (1 : Int32).toNatClampNeg) (2 : Int32) x2) (r (1 : Int32).toNatClampNeg) (3 : Int32) x3) (r (1 : Int32).toNatClampNeg) (4 : Int32) (0 : Int32) hm (iv_wide (l2 := 0) (h2 := 4) (iv_lit (v := 4) (by decide)) (by decide))) hCF gX9_comeOn_X9_lay rfl hd_X9_lay ⟨rfl, rfl, Nat.le_of_ble_eq_true rfl, Nat.le_of_ble_eq_true rfl⟩ hG hP hD hS hA [0] rfl c_Ar_Ar h_Ar rfl hl.1 rfl (Nat.le_of_ble_eq_true rfl) dX9_comeOn_42 ⟨Nat.le_refl _, Nat.le_refl _⟩ (fun H locs hP hD hS => ?_)
  have hP : va_P D vwCl (wAr cy a0 (m_X9_lay (m_X9_lay (m_X9_lay (m_X9_lay (m_X9_lay r (r (1 : Int32).toNatClampNeg) (0 : Int32) x1) (r (1 : Int32).toNatClampNeg) (1 : Int32) x2) (r (1 : Int32).toNatClampNeg) (2 : Int32) x2) (r (1 : Int32).toNatClampNeg) (3 : Int32) x3) (r (1 : Int32).toNatClampNeg) (4 : Int32) (0 : Int32))) H := va_P_eq hP r_Ar_Ar
  have hD : va_D A (wAr cy a0 (m_X9_lay (m_X9_lay (m_X9_lay (m_X9_lay (m_X9_lay r (r (1 : Int32).toNatClampNeg) (0 : Int32) x1) (r (1 : Int32).toNatClampNeg) (1 : Int32) x2) (r (1 : Int32).toNatClampNeg) (2 : Int32) x2) (r (1 : Int32).toNatClampNeg) (3 : Int32) x3) (r (1 : Int32).toNatClampNeg) (4 : Int32) (0 : Int32))) := va_D_eq hD r_Ar_Ar
  refine lv_aload_n hx hb dX9_comeOn_45 rfl (lv_at hl 1 rfl) ?_
  refine lv_iconst (v := (1 : Int32)) hx hb dX9_comeOn_46 (by decide) ?_
  refine lv_dup2_11 hx hb dX9_comeOn_47 rfl rfl ?_
  refine va_iald hx hb hG.1 hP 0 0 (n := 383) (f := (m_X9_lay (m_X9_lay (m_X9_lay (m_X9_lay (m_X9_lay r (r (1 : Int32).toNatClampNeg) (0 : Int32) x1) (r (1 : Int32).toNatClampNeg) (1 : Int32) x2) (r (1 : Int32).toNatClampNeg) (2 : Int32) x2) (r (1 : Int32).toNatClampNeg) (3 : Int32) x3) (r (1 : Int32).toNatClampNeg) (4 : Int32) (0 : Int32))) g_Ar_0 rfl (bd_of (by decide) (by decide)) dX9_comeOn_48 ?_
  refine lv_iconst (v := (1 : Int32)) hx hb dX9_comeOn_49 (by decide) ?_
  refine lv_iadd hx hb dX9_comeOn_50 ?_
  refine va_iast hx hb hG.1 hP hD hS 0 0 (n := 383) (f := (m_X9_lay (m_X9_lay (m_X9_lay (m_X9_lay (m_X9_lay r (r (1 : Int32).toNatClampNeg) (0 : Int32) x1) (r (1 : Int32).toNatClampNeg) (1 : Int32) x2) (r (1 : Int32).toNatClampNeg) (2 : Int32) x2) (r (1 : Int32).toNatClampNeg) (3 : Int32) x3) (r (1 : Int32).toNatClampNeg) (4 : Int32) (0 : Int32))) g_Ar_0 rfl (bd_of (by decide) (by decide)) dX9_comeOn_51 (fun H locs hP hD hS => ?_)
  have hP : va_P D vwCl (wAr cy a0 (upd (m_X9_lay (m_X9_lay (m_X9_lay (m_X9_lay (m_X9_lay r (r (1 : Int32).toNatClampNeg) (0 : Int32) x1) (r (1 : Int32).toNatClampNeg) (1 : Int32) x2) (r (1 : Int32).toNatClampNeg) (2 : Int32) x2) (r (1 : Int32).toNatClampNeg) (3 : Int32) x3) (r (1 : Int32).toNatClampNeg) (4 : Int32) (0 : Int32)) (1 : Int32).toNatClampNeg (((m_X9_lay (m_X9_lay (m_X9_lay (m_X9_lay (m_X9_lay r (r (1 : Int32).toNatClampNeg) (0 : Int32) x1) (r (1 : Int32).toNatClampNeg) (1 : Int32) x2) (r (1 : Int32).toNatClampNeg) (2 : Int32) x2) (r (1 : Int32).toNatClampNeg) (3 : Int32) x3) (r (1 : Int32).toNatClampNeg) (4 : Int32) (0 : Int32)) (1 : Int32).toNatClampNeg) + (1 : Int32)))) H := va_P_eq hP s_Ar_0
  have hD : va_D A (wAr cy a0 (upd (m_X9_lay (m_X9_lay (m_X9_lay (m_X9_lay (m_X9_lay r (r (1 : Int32).toNatClampNeg) (0 : Int32) x1) (r (1 : Int32).toNatClampNeg) (1 : Int32) x2) (r (1 : Int32).toNatClampNeg) (2 : Int32) x2) (r (1 : Int32).toNatClampNeg) (3 : Int32) x3) (r (1 : Int32).toNatClampNeg) (4 : Int32) (0 : Int32)) (1 : Int32).toNatClampNeg (((m_X9_lay (m_X9_lay (m_X9_lay (m_X9_lay (m_X9_lay r (r (1 : Int32).toNatClampNeg) (0 : Int32) x1) (r (1 : Int32).toNatClampNeg) (1 : Int32) x2) (r (1 : Int32).toNatClampNeg) (2 : Int32) x2) (r (1 : Int32).toNatClampNeg) (3 : Int32) x3) (r (1 : Int32).toNatClampNeg) (4 : Int32) (0 : Int32)) (1 : Int32).toNatClampNeg) + (1 : Int32)))) := va_D_eq hD s_Ar_0
  refine lv_iload hx hb dX9_comeOn_52 (lv_at hl 0 rfl) ?_
  exact mu_iret hx hb hr hlocks hP hS dX9_comeOn_54 (by rw [m_X9_comeOn]) (by rw [m_X9_comeOn])
def m_X9_whyNotLend (r : (Nat → Int32)) (x1 : Int32) (x2 : Int32) (x3 : Int32) : Int32 := if (m_X9_isUnit r x1) = (0 : Int32) then (1 : Int32) else if (m_X9_isHolder x2) = (0 : Int32) then (1 : Int32) else if (m_X9_in x3.toInt64 (1 : Int64) (30 : Int64)) = (0 : Int32) then (2 : Int32) else if (m_X9_isFree r x1) = (0 : Int32) then (3 : Int32) else if (m_X9_of r x1 (1 : Int32)) = x2 then (3 : Int32) else (0 : Int32)
theorem hd_X9_whyNotLend : yX9_whyNotLend.cls = RX9 ∧ yX9_whyNotLend.cls ≠ "java/lang/invoke/MethodHandle" ∧ yX9_whyNotLend.cls ≠ "java/lang/invoke/VarHandle" ∧ (parseMethodDescriptor yX9_whyNotLend.desc).map (fun d => d.parameters.length) = some 4 := by decide +kernel
set_option maxHeartbeats 8000000 in
set_option maxRecDepth 20000 in
theorem c_X9_whyNotLend (l : Launch) (D : va_G) (cy : Nat → ClassId) (a0 : Nat) (r : (Nat → Int32)) (x1 : Int32) (x2 : Int32) (x3 : Int32) (hR : rOK r) : RO l D cy yX9_whyNotLend wsX9_whyNotLend ({ frames := 2, cells := 0, slots := 0, locals := 46 } : Room) (wAr cy a0 r) [.ref a0, .int x1, .int x2, .int x3] (m_X9_whyNotLend r x1 x2 x3) := by
  refine RO.body (by decide) rfl (Nat.le_of_ble_eq_true rfl) ?_
  intro p e s m below meth c hx hb hml hr hts hown hlocks hP hG ls hl
  have hl : lv_has ls 4 [(0, .ref a0), (1, .int x1), (2, .int x2), (3, .int x3)] := hl
  have hCF : CallFix p m c cX9_whyNotLend 4 s ([.ref a0, .int x1, .int x2, .int x3] : List Value).toArray wsX9_whyNotLend RX9 := ⟨hx, hb, hml, hown, hts⟩
  have k_0 := hts (Cond.constantLong RX9 72 (30)) (List.mem_of_getElem? (i := 1) rfl)
  refine lv_aload_n hx hb dX9_whyNotLend_0 rfl (lv_at hl 0 rfl) ?_
  refine lv_iload_n hx hb dX9_whyNotLend_1 rfl (lv_at hl 1 rfl) ?_
  refine roS (wc := (wAr cy a0 r)) (As := [.ref a0, .int x1]) (rest := []) (c_X9_isUnit l D cy a0 r x1) hCF gX9_whyNotLend_X9_isUnit rfl hd_X9_isUnit ⟨rfl, rfl, Nat.le_of_ble_eq_true rfl, Nat.le_of_ble_eq_true rfl⟩ hG hP rfl hl.1 rfl (Nat.le_of_ble_eq_true rfl) dX9_whyNotLend_2 ⟨Nat.le_refl _, Nat.le_refl _⟩ ?_
  refine lv_if_eq (tgt := 15) hx hb dX9_whyNotLend_5 (by decide) (fun c_1 => ?_) (fun c_1 => ?_)
  · skip
    refine lv_iconst (v := (1 : Int32)) hx hb dX9_whyNotLend_15 (by decide) ?_
    refine lv_goto (tgt := 58) hx hb dX9_whyNotLend_16 (by decide) ?_
    exact ro_iret hx hb hr hlocks dX9_whyNotLend_58 (by rw [m_X9_whyNotLend, if_pos c_1])
  · skip
    refine lv_iload_n hx hb dX9_whyNotLend_8 rfl (lv_at hl 2 rfl) ?_
    refine roS (wc := ([] : va_W)) (As := [.int x2]) (rest := []) (c_X9_isHolder l D cy x2) hCF gX9_whyNotLend_X9_isHolder rfl hd_X9_isHolder ⟨rfl, rfl, Nat.le_of_ble_eq_true rfl, Nat.le_of_ble_eq_true rfl⟩ hG va_P_nil rfl hl.1 rfl (Nat.le_of_ble_eq_true rfl) dX9_whyNotLend_9 ⟨Nat.le_refl _, Nat.le_refl _⟩ ?_
    refine lv_if_ne (tgt := 19) hx hb dX9_whyNotLend_12 (by decide) (fun c_2 => ?_) (fun c_2 => ?_)
    · skip
      refine lv_iload_n hx hb dX9_whyNotLend_19 rfl (lv_at hl 3 rfl) ?_
      refine lv_i2l hx hb dX9_whyNotLend_20 rfl ?_
      refine lv_lconst (v := (1 : Int64)) hx hb dX9_whyNotLend_21 (by decide) ?_
      refine lv_ldc2 (v := (30 : Int64)) hx hb hown k_0 dX9_whyNotLend_22 ?_
      refine roS (wc := ([] : va_W)) (As := [.long x3.toInt64, .long (1 : Int64), .long (30 : Int64)]) (rest := []) (c_X9_in l D cy x3.toInt64 (1 : Int64) (30 : Int64)) hCF gX9_whyNotLend_X9_in rfl hd_X9_in ⟨rfl, rfl, Nat.le_of_ble_eq_true rfl, Nat.le_of_ble_eq_true rfl⟩ hG va_P_nil rfl hl.1 rfl (Nat.le_of_ble_eq_true rfl) dX9_whyNotLend_25 ⟨Nat.le_refl _, Nat.le_refl _⟩ ?_
      refine lv_if_ne (tgt := 35) hx hb dX9_whyNotLend_28 (by decide) (fun c_3 => ?_) (fun c_3 => ?_)
      · skip
        refine lv_aload_n hx hb dX9_whyNotLend_35 rfl (lv_at hl 0 rfl) ?_
        refine lv_iload_n hx hb dX9_whyNotLend_36 rfl (lv_at hl 1 rfl) ?_
        refine roS (wc := (wAr cy a0 r)) (As := [.ref a0, .int x1]) (rest := []) (c_X9_isFree l D cy a0 r x1 (iv_isUnit hR c_1)) hCF gX9_whyNotLend_X9_isFree rfl hd_X9_isFree ⟨rfl, rfl, Nat.le_of_ble_eq_true rfl, Nat.le_of_ble_eq_true rfl⟩ hG hP rfl hl.1 rfl (Nat.le_of_ble_eq_true rfl) dX9_whyNotLend_37 ⟨Nat.le_refl _, Nat.le_refl _⟩ ?_
        refine lv_if_eq (tgt := 53) hx hb dX9_whyNotLend_40 (by decide) (fun c_4 => ?_) (fun c_4 => ?_)
        · skip
          refine lv_iconst (v := (3 : Int32)) hx hb dX9_whyNotLend_53 (by decide) ?_
          refine lv_goto (tgt := 58) hx hb dX9_whyNotLend_54 (by decide) ?_
          exact ro_iret hx hb hr hlocks dX9_whyNotLend_58 (by rw [m_X9_whyNotLend, if_neg c_1, if_neg c_2, if_neg c_3, if_pos c_4])
        · skip
          refine lv_aload_n hx hb dX9_whyNotLend_43 rfl (lv_at hl 0 rfl) ?_
          refine lv_iload_n hx hb dX9_whyNotLend_44 rfl (lv_at hl 1 rfl) ?_
          refine lv_iconst (v := (1 : Int32)) hx hb dX9_whyNotLend_45 (by decide) ?_
          refine roS (wc := (wAr cy a0 r)) (As := [.ref a0, .int x1, .int (1 : Int32)]) (rest := []) (c_X9_of l D cy a0 r x1 (1 : Int32) (iv_isUnit hR c_1) (iv_wide (l2 := 0) (h2 := 4) (iv_lit (v := 1) (by decide)) (by decide))) hCF gX9_whyNotLend_X9_of rfl hd_X9_of ⟨rfl, rfl, Nat.le_of_ble_eq_true rfl, Nat.le_of_ble_eq_true rfl⟩ hG hP rfl hl.1 rfl (Nat.le_of_ble_eq_true rfl) dX9_whyNotLend_46 ⟨Nat.le_refl _, Nat.le_refl _⟩ ?_
          refine lv_iload_n hx hb dX9_whyNotLend_49 rfl (lv_at hl 2 rfl) ?_
          refine lv_icmp_ne (tgt := 57) hx hb dX9_whyNotLend_50 (by decide) (fun c_5 => ?_) (fun c_5 => ?_)
          · skip
            refine lv_iconst (v := (0 : Int32)) hx hb dX9_whyNotLend_57 (by decide) ?_
            exact ro_iret hx hb hr hlocks dX9_whyNotLend_58 (by rw [m_X9_whyNotLend, if_neg c_1, if_neg c_2, if_neg c_3, if_neg c_4, if_neg c_5])
          · skip
            refine lv_iconst (v := (3 : Int32)) hx hb dX9_whyNotLend_53 (by decide) ?_
            refine lv_goto (tgt := 58) hx hb dX9_whyNotLend_54 (by decide) ?_
            exact ro_iret hx hb hr hlocks dX9_whyNotLend_58 (by rw [m_X9_whyNotLend, if_neg c_1, if_neg c_2, if_neg c_3, if_neg c_4, if_pos c_5])
      · skip
        refine lv_iconst (v := (2 : Int32)) hx hb dX9_whyNotLend_31 (by decide) ?_
        refine lv_goto (tgt := 58) hx hb dX9_whyNotLend_32 (by decide) ?_
        exact ro_iret hx hb hr hlocks dX9_whyNotLend_58 (by rw [m_X9_whyNotLend, if_neg c_1, if_neg c_2, if_pos c_3])
    · skip
      refine lv_iconst (v := (1 : Int32)) hx hb dX9_whyNotLend_15 (by decide) ?_
      refine lv_goto (tgt := 58) hx hb dX9_whyNotLend_16 (by decide) ?_
      exact ro_iret hx hb hr hlocks dX9_whyNotLend_58 (by rw [m_X9_whyNotLend, if_neg c_1, if_pos c_2])
theorem wn_nn_Lend (r : Nat → Int32) (x1 x2 x3 : Int32) : 0 ≤ (m_X9_whyNotLend r x1 x2 x3).toInt := by
  unfold m_X9_whyNotLend
  repeat' split
  all_goals decide
theorem wn_Lend_0 {r : Nat → Int32} {x1 x2 x3 : Int32} (hR : rOK r) (c : m_X9_whyNotLend r x1 x2 x3 = 0) : iv 0 15 x1 := by
  unfold m_X9_whyNotLend at c
  split at c
  · exact absurd c (by decide)
  rename_i h0
  exact iv_isUnit hR h0
theorem wn_Lend_1 {r : Nat → Int32} {x1 x2 x3 : Int32} (hR : rOK r) (c : m_X9_whyNotLend r x1 x2 x3 = 0) : iv 0 4 x2 := by
  unfold m_X9_whyNotLend at c
  split at c
  · exact absurd c (by decide)
  rename_i h0
  split at c
  · exact absurd c (by decide)
  rename_i h1
  exact iv_isHolder h1
def m_X9_lendOn (r : (Nat → Int32)) (x1 : Int32) (x2 : Int32) (x3 : Int32) : Int32 × (Nat → Int32) := (((m_X9_lay (m_X9_lay r x1 (2 : Int32) x2) x1 (4 : Int32) (((m_X9_lay r x1 (2 : Int32) x2) (0 : Int32).toNatClampNeg) + x3)) (0 : Int32).toNatClampNeg) + x3, m_X9_lay (m_X9_lay r x1 (2 : Int32) x2) x1 (4 : Int32) (((m_X9_lay r x1 (2 : Int32) x2) (0 : Int32).toNatClampNeg) + x3))
theorem hd_X9_lendOn : yX9_lendOn.cls = RX9 ∧ yX9_lendOn.cls ≠ "java/lang/invoke/MethodHandle" ∧ yX9_lendOn.cls ≠ "java/lang/invoke/VarHandle" ∧ (parseMethodDescriptor yX9_lendOn.desc).map (fun d => d.parameters.length) = some 4 := by decide +kernel
set_option maxHeartbeats 8000000 in
set_option maxRecDepth 20000 in
theorem c_X9_lendOn (l : Launch) (D : va_G) (cy : Nat → ClassId) (a0 : Nat) (r : (Nat → Int32)) (x1 : Int32) (x2 : Int32) (x3 : Int32) (h_x1 : iv 0 15 x1) : MU l D cy yX9_lendOn wsX9_lendOn ({ frames := 1, cells := 0, slots := 0, locals := 23 } : Room) (wAr cy a0 r) (wAr cy a0 (m_X9_lendOn r x1 x2 x3).2) [.ref a0, .int x1, .int x2, .int x3] (m_X9_lendOn r x1 x2 x3).1 := by
  refine MU.body (by decide) rfl (Nat.le_of_ble_eq_true rfl) ?_
  intro p e s m below meth c hx hb hml hr hts hown hlocks hP hG ls hl A hD hA hS
  have hl : lv_has ls 4 [(0, .ref a0), (1, .int x1), (2, .int x2), (3, .int x3)] := hl
  have hCF : CallFix p m c cX9_lendOn 4 s ([.ref a0, .int x1, .int x2, .int x3] : List Value).toArray wsX9_lendOn RX9 := ⟨hx, hb, hml, hown, hts⟩
  have hP : va_P D vwCl (wAr cy a0 r) s.heap := hP
  refine lv_aload_n hx hb dX9_lendOn_0 rfl (lv_at hl 0 rfl) ?_
  refine lv_iload_n hx hb dX9_lendOn_1 rfl (lv_at hl 1 rfl) ?_
  refine lv_iconst (v := (2 : Int32)) hx hb dX9_lendOn_2 (by decide) ?_
  refine lv_iload_n hx hb dX9_lendOn_3 rfl (lv_at hl 2 rfl) ?_
  refine mvS (A0 := A) (wc := (wAr cy a0 r)) (As := [.ref a0, .int x1, .int (2 : Int32), .int x2]) (rest := []) (c_X9_lay l D cy a0 r x1 (2 : Int32) x2 h_x1 (iv_wide (l2 := 0) (h2 := 4) (iv_lit (v := 2) (by decide)) (by decide))) hCF gX9_lendOn_X9_lay rfl hd_X9_lay ⟨rfl, rfl, Nat.le_of_ble_eq_true rfl, Nat.le_of_ble_eq_true rfl⟩ hG hP hD hS hA [0] rfl c_Ar_Ar h_Ar rfl hl.1 rfl (Nat.le_of_ble_eq_true rfl) dX9_lendOn_4 ⟨Nat.le_refl _, Nat.le_refl _⟩ (fun H locs hP hD hS => ?_)
  have hP : va_P D vwCl (wAr cy a0 (m_X9_lay r x1 (2 : Int32) x2)) H := va_P_eq hP r_Ar_Ar
  have hD : va_D A (wAr cy a0 (m_X9_lay r x1 (2 : Int32) x2)) := va_D_eq hD r_Ar_Ar
  refine lv_aload_n hx hb dX9_lendOn_7 rfl (lv_at hl 0 rfl) ?_
  refine lv_iload_n hx hb dX9_lendOn_8 rfl (lv_at hl 1 rfl) ?_
  refine lv_iconst (v := (4 : Int32)) hx hb dX9_lendOn_9 (by decide) ?_
  refine lv_aload_n hx hb dX9_lendOn_10 rfl (lv_at hl 0 rfl) ?_
  refine lv_iconst (v := (0 : Int32)) hx hb dX9_lendOn_11 (by decide) ?_
  refine va_iald hx hb hG.1 hP 0 0 (n := 383) (f := (m_X9_lay r x1 (2 : Int32) x2)) g_Ar_0 rfl (bd_of (by decide) (by decide)) dX9_lendOn_12 ?_
  refine lv_iload_n hx hb dX9_lendOn_13 rfl (lv_at hl 3 rfl) ?_
  refine lv_iadd hx hb dX9_lendOn_14 ?_
  refine mvS (A0 := A) (wc := (wAr cy a0 (m_X9_lay r x1 (2 : Int32) x2))) (As := [.ref a0, .int x1, .int (4 : Int32), .int (((m_X9_lay r x1 (2 : Int32) x2) (0 : Int32).toNatClampNeg) + x3)]) (rest := []) (c_X9_lay l D cy a0 (m_X9_lay r x1 (2 : Int32) x2) x1 (4 : Int32) (((m_X9_lay r x1 (2 : Int32) x2) (0 : Int32).toNatClampNeg) + x3) h_x1 (iv_wide (l2 := 0) (h2 := 4) (iv_lit (v := 4) (by decide)) (by decide))) hCF gX9_lendOn_X9_lay rfl hd_X9_lay ⟨rfl, rfl, Nat.le_of_ble_eq_true rfl, Nat.le_of_ble_eq_true rfl⟩ hG hP hD hS hA [0] rfl c_Ar_Ar h_Ar rfl hl.1 rfl (Nat.le_of_ble_eq_true rfl) dX9_lendOn_15 ⟨Nat.le_refl _, Nat.le_refl _⟩ (fun H locs hP hD hS => ?_)
  have hP : va_P D vwCl (wAr cy a0 (m_X9_lay (m_X9_lay r x1 (2 : Int32) x2) x1 (4 : Int32) (((m_X9_lay r x1 (2 : Int32) x2) (0 : Int32).toNatClampNeg) + x3))) H := va_P_eq hP r_Ar_Ar
  have hD : va_D A (wAr cy a0 (m_X9_lay (m_X9_lay r x1 (2 : Int32) x2) x1 (4 : Int32) (((m_X9_lay r x1 (2 : Int32) x2) (0 : Int32).toNatClampNeg) + x3))) := va_D_eq hD r_Ar_Ar
  refine lv_aload_n hx hb dX9_lendOn_18 rfl (lv_at hl 0 rfl) ?_
  refine lv_iconst (v := (0 : Int32)) hx hb dX9_lendOn_19 (by decide) ?_
  refine va_iald hx hb hG.1 hP 0 0 (n := 383) (f := (m_X9_lay (m_X9_lay r x1 (2 : Int32) x2) x1 (4 : Int32) (((m_X9_lay r x1 (2 : Int32) x2) (0 : Int32).toNatClampNeg) + x3))) g_Ar_0 rfl (bd_of (by decide) (by decide)) dX9_lendOn_20 ?_
  refine lv_iload_n hx hb dX9_lendOn_21 rfl (lv_at hl 3 rfl) ?_
  refine lv_iadd hx hb dX9_lendOn_22 ?_
  exact mu_iret hx hb hr hlocks hP hS dX9_lendOn_23 (by rw [m_X9_lendOn]) (by rw [m_X9_lendOn])
def m_X9_whyNotBring (r : (Nat → Int32)) (x1 : Int32) : Int32 := if (m_X9_isUnit r x1) = (0 : Int32) then (1 : Int32) else if (m_X9_isFree r x1) = (0 : Int32) then (0 : Int32) else (2 : Int32)
theorem hd_X9_whyNotBring : yX9_whyNotBring.cls = RX9 ∧ yX9_whyNotBring.cls ≠ "java/lang/invoke/MethodHandle" ∧ yX9_whyNotBring.cls ≠ "java/lang/invoke/VarHandle" ∧ (parseMethodDescriptor yX9_whyNotBring.desc).map (fun d => d.parameters.length) = some 2 := by decide +kernel
set_option maxHeartbeats 8000000 in
set_option maxRecDepth 20000 in
theorem c_X9_whyNotBring (l : Launch) (D : va_G) (cy : Nat → ClassId) (a0 : Nat) (r : (Nat → Int32)) (x1 : Int32) (hR : rOK r) : RO l D cy yX9_whyNotBring wsX9_whyNotBring ({ frames := 2, cells := 0, slots := 0, locals := 46 } : Room) (wAr cy a0 r) [.ref a0, .int x1] (m_X9_whyNotBring r x1) := by
  refine RO.body (by decide) rfl (Nat.le_of_ble_eq_true rfl) ?_
  intro p e s m below meth c hx hb hml hr hts hown hlocks hP hG ls hl
  have hl : lv_has ls 2 [(0, .ref a0), (1, .int x1)] := hl
  have hCF : CallFix p m c cX9_whyNotBring 2 s ([.ref a0, .int x1] : List Value).toArray wsX9_whyNotBring RX9 := ⟨hx, hb, hml, hown, hts⟩
  refine lv_aload_n hx hb dX9_whyNotBring_0 rfl (lv_at hl 0 rfl) ?_
  refine lv_iload_n hx hb dX9_whyNotBring_1 rfl (lv_at hl 1 rfl) ?_
  refine roS (wc := (wAr cy a0 r)) (As := [.ref a0, .int x1]) (rest := []) (c_X9_isUnit l D cy a0 r x1) hCF gX9_whyNotBring_X9_isUnit rfl hd_X9_isUnit ⟨rfl, rfl, Nat.le_of_ble_eq_true rfl, Nat.le_of_ble_eq_true rfl⟩ hG hP rfl hl.1 rfl (Nat.le_of_ble_eq_true rfl) dX9_whyNotBring_2 ⟨Nat.le_refl _, Nat.le_refl _⟩ ?_
  refine lv_if_ne (tgt := 12) hx hb dX9_whyNotBring_5 (by decide) (fun c_1 => ?_) (fun c_1 => ?_)
  · skip
    refine lv_aload_n hx hb dX9_whyNotBring_12 rfl (lv_at hl 0 rfl) ?_
    refine lv_iload_n hx hb dX9_whyNotBring_13 rfl (lv_at hl 1 rfl) ?_
    refine roS (wc := (wAr cy a0 r)) (As := [.ref a0, .int x1]) (rest := []) (c_X9_isFree l D cy a0 r x1 (iv_isUnit hR c_1)) hCF gX9_whyNotBring_X9_isFree rfl hd_X9_isFree ⟨rfl, rfl, Nat.le_of_ble_eq_true rfl, Nat.le_of_ble_eq_true rfl⟩ hG hP rfl hl.1 rfl (Nat.le_of_ble_eq_true rfl) dX9_whyNotBring_14 ⟨Nat.le_refl _, Nat.le_refl _⟩ ?_
    refine lv_if_eq (tgt := 24) hx hb dX9_whyNotBring_17 (by decide) (fun c_2 => ?_) (fun c_2 => ?_)
    · skip
      refine lv_iconst (v := (0 : Int32)) hx hb dX9_whyNotBring_24 (by decide) ?_
      exact ro_iret hx hb hr hlocks dX9_whyNotBring_25 (by rw [m_X9_whyNotBring, if_neg c_1, if_pos c_2])
    · skip
      refine lv_iconst (v := (2 : Int32)) hx hb dX9_whyNotBring_20 (by decide) ?_
      refine lv_goto (tgt := 25) hx hb dX9_whyNotBring_21 (by decide) ?_
      exact ro_iret hx hb hr hlocks dX9_whyNotBring_25 (by rw [m_X9_whyNotBring, if_neg c_1, if_neg c_2])
  · skip
    refine lv_iconst (v := (1 : Int32)) hx hb dX9_whyNotBring_8 (by decide) ?_
    refine lv_goto (tgt := 25) hx hb dX9_whyNotBring_9 (by decide) ?_
    exact ro_iret hx hb hr hlocks dX9_whyNotBring_25 (by rw [m_X9_whyNotBring, if_pos c_1])
theorem wn_nn_Bring (r : Nat → Int32) (x1 : Int32) : 0 ≤ (m_X9_whyNotBring r x1).toInt := by
  unfold m_X9_whyNotBring
  repeat' split
  all_goals decide
theorem wn_Bring_0 {r : Nat → Int32} {x1 : Int32} (hR : rOK r) (c : m_X9_whyNotBring r x1 = 0) : iv 0 15 x1 := by
  unfold m_X9_whyNotBring at c
  split at c
  · exact absurd c (by decide)
  rename_i h0
  exact iv_isUnit hR h0
def m_X9_bringOn (r : (Nat → Int32)) (x1 : Int32) : Int32 × (Nat → Int32) := (m_X9_lateOf r x1 (0 : Int32), m_X9_lay (m_X9_pays r (m_X9_of r x1 (2 : Int32)) (m_X9_of r x1 (1 : Int32)) (m_X9_lateOf r x1 (0 : Int32))) x1 (2 : Int32) (m_X9_of (m_X9_pays r (m_X9_of r x1 (2 : Int32)) (m_X9_of r x1 (1 : Int32)) (m_X9_lateOf r x1 (0 : Int32))) x1 (1 : Int32)))
theorem hd_X9_bringOn : yX9_bringOn.cls = RX9 ∧ yX9_bringOn.cls ≠ "java/lang/invoke/MethodHandle" ∧ yX9_bringOn.cls ≠ "java/lang/invoke/VarHandle" ∧ (parseMethodDescriptor yX9_bringOn.desc).map (fun d => d.parameters.length) = some 2 := by decide +kernel
set_option maxHeartbeats 8000000 in
set_option maxRecDepth 20000 in
theorem c_X9_bringOn (l : Launch) (D : va_G) (cy : Nat → ClassId) (a0 : Nat) (r : (Nat → Int32)) (x1 : Int32) (hR : rOK r) (h_x1 : iv 0 15 x1) : MU l D cy yX9_bringOn wsX9_bringOn ({ frames := 3, cells := 0, slots := 0, locals := 65 } : Room) (wAr cy a0 r) (wAr cy a0 (m_X9_bringOn r x1).2) [.ref a0, .int x1] (m_X9_bringOn r x1).1 := by
  refine MU.body (by decide) rfl (Nat.le_of_ble_eq_true rfl) ?_
  intro p e s m below meth c hx hb hml hr hts hown hlocks hP hG ls hl A hD hA hS
  have hl : lv_has ls 3 [(0, .ref a0), (1, .int x1)] := hl
  have hCF : CallFix p m c cX9_bringOn 3 s ([.ref a0, .int x1] : List Value).toArray wsX9_bringOn RX9 := ⟨hx, hb, hml, hown, hts⟩
  have hP : va_P D vwCl (wAr cy a0 r) s.heap := hP
  refine lv_aload_n hx hb dX9_bringOn_0 rfl (lv_at hl 0 rfl) ?_
  refine lv_iload_n hx hb dX9_bringOn_1 rfl (lv_at hl 1 rfl) ?_
  refine lv_iconst (v := (0 : Int32)) hx hb dX9_bringOn_2 (by decide) ?_
  refine roS (wc := (wAr cy a0 r)) (As := [.ref a0, .int x1, .int (0 : Int32)]) (rest := []) (c_X9_lateOf l D cy a0 r x1 (0 : Int32) h_x1) hCF gX9_bringOn_X9_lateOf rfl hd_X9_lateOf ⟨rfl, rfl, Nat.le_of_ble_eq_true rfl, Nat.le_of_ble_eq_true rfl⟩ hG hP rfl hl.1 rfl (Nat.le_of_ble_eq_true rfl) dX9_bringOn_3 ⟨Nat.le_refl _, Nat.le_refl _⟩ ?_
  refine lv_istore_n (lv' := [(2, .int (m_X9_lateOf r x1 (0 : Int32))), (0, .ref a0), (1, .int x1)]) hx hb dX9_bringOn_6 rfl hl (by decide) rfl (fun ls hl => ?_)
  refine lv_aload_n hx hb dX9_bringOn_7 rfl (lv_at hl 1 rfl) ?_
  refine lv_aload_n hx hb dX9_bringOn_8 rfl (lv_at hl 1 rfl) ?_
  refine lv_iload_n hx hb dX9_bringOn_9 rfl (lv_at hl 2 rfl) ?_
  refine lv_iconst (v := (2 : Int32)) hx hb dX9_bringOn_10 (by decide) ?_
  refine roS (wc := (wAr cy a0 r)) (As := [.ref a0, .int x1, .int (2 : Int32)]) (rest := [.ref a0]) (c_X9_of l D cy a0 r x1 (2 : Int32) h_x1 (iv_wide (l2 := 0) (h2 := 4) (iv_lit (v := 2) (by decide)) (by decide))) hCF gX9_bringOn_X9_of rfl hd_X9_of ⟨rfl, rfl, Nat.le_of_ble_eq_true rfl, Nat.le_of_ble_eq_true rfl⟩ hG hP rfl hl.1 rfl (Nat.le_of_ble_eq_true rfl) dX9_bringOn_11 ⟨Nat.le_refl _, Nat.le_refl _⟩ ?_
  refine lv_aload_n hx hb dX9_bringOn_14 rfl (lv_at hl 1 rfl) ?_
  refine lv_iload_n hx hb dX9_bringOn_15 rfl (lv_at hl 2 rfl) ?_
  refine lv_iconst (v := (1 : Int32)) hx hb dX9_bringOn_16 (by decide) ?_
  refine roS (wc := (wAr cy a0 r)) (As := [.ref a0, .int x1, .int (1 : Int32)]) (rest := [.int (m_X9_of r x1 (2 : Int32)), .ref a0]) (c_X9_of l D cy a0 r x1 (1 : Int32) h_x1 (iv_wide (l2 := 0) (h2 := 4) (iv_lit (v := 1) (by decide)) (by decide))) hCF gX9_bringOn_X9_of rfl hd_X9_of ⟨rfl, rfl, Nat.le_of_ble_eq_true rfl, Nat.le_of_ble_eq_true rfl⟩ hG hP rfl hl.1 rfl (Nat.le_of_ble_eq_true rfl) dX9_bringOn_17 ⟨Nat.le_refl _, Nat.le_refl _⟩ ?_
  refine lv_iload_n hx hb dX9_bringOn_20 rfl (lv_at hl 0 rfl) ?_
  refine mvS (A0 := A) (wc := (wAr cy a0 r)) (As := [.ref a0, .int (m_X9_of r x1 (2 : Int32)), .int (m_X9_of r x1 (1 : Int32)), .int (m_X9_lateOf r x1 (0 : Int32))]) (rest := []) (c_X9_pays l D cy a0 r (m_X9_of r x1 (2 : Int32)) (m_X9_of r x1 (1 : Int32)) (m_X9_lateOf r x1 (0 : Int32)) (rk_of2 hR h_x1) (rk_of1 hR h_x1)) hCF gX9_bringOn_X9_pays rfl hd_X9_pays ⟨rfl, rfl, Nat.le_of_ble_eq_true rfl, Nat.le_of_ble_eq_true rfl⟩ hG hP hD hS hA [0] rfl c_Ar_Ar h_Ar rfl hl.1 rfl (Nat.le_of_ble_eq_true rfl) dX9_bringOn_21 ⟨Nat.le_refl _, Nat.le_refl _⟩ (fun H locs hP hD hS => ?_)
  have hP : va_P D vwCl (wAr cy a0 (m_X9_pays r (m_X9_of r x1 (2 : Int32)) (m_X9_of r x1 (1 : Int32)) (m_X9_lateOf r x1 (0 : Int32)))) H := va_P_eq hP r_Ar_Ar
  have hD : va_D A (wAr cy a0 (m_X9_pays r (m_X9_of r x1 (2 : Int32)) (m_X9_of r x1 (1 : Int32)) (m_X9_lateOf r x1 (0 : Int32)))) := va_D_eq hD r_Ar_Ar
  refine lv_aload_n hx hb dX9_bringOn_24 rfl (lv_at hl 1 rfl) ?_
  refine lv_iload_n hx hb dX9_bringOn_25 rfl (lv_at hl 2 rfl) ?_
  refine lv_iconst (v := (2 : Int32)) hx hb dX9_bringOn_26 (by decide) ?_
  refine lv_aload_n hx hb dX9_bringOn_27 rfl (lv_at hl 1 rfl) ?_
  refine lv_iload_n hx hb dX9_bringOn_28 rfl (lv_at hl 2 rfl) ?_
  refine lv_iconst (v := (1 : Int32)) hx hb dX9_bringOn_29 (by decide) ?_
  refine roS (wc := (wAr cy a0 (m_X9_pays r (m_X9_of r x1 (2 : Int32)) (m_X9_of r x1 (1 : Int32)) (m_X9_lateOf r x1 (0 : Int32))))) (As := [.ref a0, .int x1, .int (1 : Int32)]) (rest := [.int (2 : Int32), .int x1, .ref a0]) (c_X9_of l D cy a0 (m_X9_pays r (m_X9_of r x1 (2 : Int32)) (m_X9_of r x1 (1 : Int32)) (m_X9_lateOf r x1 (0 : Int32))) x1 (1 : Int32) h_x1 (iv_wide (l2 := 0) (h2 := 4) (iv_lit (v := 1) (by decide)) (by decide))) hCF gX9_bringOn_X9_of rfl hd_X9_of ⟨rfl, rfl, Nat.le_of_ble_eq_true rfl, Nat.le_of_ble_eq_true rfl⟩ hG hP rfl hl.1 rfl (Nat.le_of_ble_eq_true rfl) dX9_bringOn_30 ⟨Nat.le_refl _, Nat.le_refl _⟩ ?_
  refine mvS (A0 := A) (wc := (wAr cy a0 (m_X9_pays r (m_X9_of r x1 (2 : Int32)) (m_X9_of r x1 (1 : Int32)) (m_X9_lateOf r x1 (0 : Int32))))) (As := [.ref a0, .int x1, .int (2 : Int32), .int (m_X9_of (m_X9_pays r (m_X9_of r x1 (2 : Int32)) (m_X9_of r x1 (1 : Int32)) (m_X9_lateOf r x1 (0 : Int32))) x1 (1 : Int32))]) (rest := []) (c_X9_lay l D cy a0 (m_X9_pays r (m_X9_of r x1 (2 : Int32)) (m_X9_of r x1 (1 : Int32)) (m_X9_lateOf r x1 (0 : Int32))) x1 (2 : Int32) (m_X9_of (m_X9_pays r (m_X9_of r x1 (2 : Int32)) (m_X9_of r x1 (1 : Int32)) (m_X9_lateOf r x1 (0 : Int32))) x1 (1 : Int32)) h_x1 (iv_wide (l2 := 0) (h2 := 4) (iv_lit (v := 2) (by decide)) (by decide))) hCF gX9_bringOn_X9_lay rfl hd_X9_lay ⟨rfl, rfl, Nat.le_of_ble_eq_true rfl, Nat.le_of_ble_eq_true rfl⟩ hG hP hD hS hA [0] rfl c_Ar_Ar h_Ar rfl hl.1 rfl (Nat.le_of_ble_eq_true rfl) dX9_bringOn_33 ⟨Nat.le_refl _, Nat.le_refl _⟩ (fun H locs hP hD hS => ?_)
  have hP : va_P D vwCl (wAr cy a0 (m_X9_lay (m_X9_pays r (m_X9_of r x1 (2 : Int32)) (m_X9_of r x1 (1 : Int32)) (m_X9_lateOf r x1 (0 : Int32))) x1 (2 : Int32) (m_X9_of (m_X9_pays r (m_X9_of r x1 (2 : Int32)) (m_X9_of r x1 (1 : Int32)) (m_X9_lateOf r x1 (0 : Int32))) x1 (1 : Int32)))) H := va_P_eq hP r_Ar_Ar
  have hD : va_D A (wAr cy a0 (m_X9_lay (m_X9_pays r (m_X9_of r x1 (2 : Int32)) (m_X9_of r x1 (1 : Int32)) (m_X9_lateOf r x1 (0 : Int32))) x1 (2 : Int32) (m_X9_of (m_X9_pays r (m_X9_of r x1 (2 : Int32)) (m_X9_of r x1 (1 : Int32)) (m_X9_lateOf r x1 (0 : Int32))) x1 (1 : Int32)))) := va_D_eq hD r_Ar_Ar
  refine lv_iload_n hx hb dX9_bringOn_36 rfl (lv_at hl 0 rfl) ?_
  exact mu_iret hx hb hr hlocks hP hS dX9_bringOn_37 (by rw [m_X9_bringOn]) (by rw [m_X9_bringOn])
def m_X9_isCore (r : (Nat → Int32)) (x1 : Int32) : Int32 := if (m_X9_of r x1 (1 : Int32)) = (4 : Int32) then (0 : Int32) else if (m_X9_isFree r x1) = (0 : Int32) then (0 : Int32) else (1 : Int32)
theorem hd_X9_isCore : yX9_isCore.cls = RX9 ∧ yX9_isCore.cls ≠ "java/lang/invoke/MethodHandle" ∧ yX9_isCore.cls ≠ "java/lang/invoke/VarHandle" ∧ (parseMethodDescriptor yX9_isCore.desc).map (fun d => d.parameters.length) = some 2 := by decide +kernel
set_option maxHeartbeats 8000000 in
set_option maxRecDepth 20000 in
theorem c_X9_isCore (l : Launch) (D : va_G) (cy : Nat → ClassId) (a0 : Nat) (r : (Nat → Int32)) (x1 : Int32) (h_x1 : iv 0 15 x1) : RO l D cy yX9_isCore wsX9_isCore ({ frames := 2, cells := 0, slots := 0, locals := 43 } : Room) (wAr cy a0 r) [.ref a0, .int x1] (m_X9_isCore r x1) := by
  refine RO.body (by decide) rfl (Nat.le_of_ble_eq_true rfl) ?_
  intro p e s m below meth c hx hb hml hr hts hown hlocks hP hG ls hl
  have hl : lv_has ls 2 [(0, .ref a0), (1, .int x1)] := hl
  have hCF : CallFix p m c cX9_isCore 2 s ([.ref a0, .int x1] : List Value).toArray wsX9_isCore RX9 := ⟨hx, hb, hml, hown, hts⟩
  refine lv_aload_n hx hb dX9_isCore_0 rfl (lv_at hl 0 rfl) ?_
  refine lv_iload_n hx hb dX9_isCore_1 rfl (lv_at hl 1 rfl) ?_
  refine lv_iconst (v := (1 : Int32)) hx hb dX9_isCore_2 (by decide) ?_
  refine roS (wc := (wAr cy a0 r)) (As := [.ref a0, .int x1, .int (1 : Int32)]) (rest := []) (c_X9_of l D cy a0 r x1 (1 : Int32) h_x1 (iv_wide (l2 := 0) (h2 := 4) (iv_lit (v := 1) (by decide)) (by decide))) hCF gX9_isCore_X9_of rfl hd_X9_of ⟨rfl, rfl, Nat.le_of_ble_eq_true rfl, Nat.le_of_ble_eq_true rfl⟩ hG hP rfl hl.1 rfl (Nat.le_of_ble_eq_true rfl) dX9_isCore_3 ⟨Nat.le_refl _, Nat.le_refl _⟩ ?_
  refine lv_iconst (v := (4 : Int32)) hx hb dX9_isCore_6 (by decide) ?_
  refine lv_icmp_eq (tgt := 22) hx hb dX9_isCore_7 (by decide) (fun c_1 => ?_) (fun c_1 => ?_)
  · skip
    refine lv_iconst (v := (0 : Int32)) hx hb dX9_isCore_22 (by decide) ?_
    exact ro_zret hx hb hr hlocks rfl dX9_isCore_23 (by rw [m_X9_isCore, if_pos c_1])
  · skip
    refine lv_aload_n hx hb dX9_isCore_10 rfl (lv_at hl 0 rfl) ?_
    refine lv_iload_n hx hb dX9_isCore_11 rfl (lv_at hl 1 rfl) ?_
    refine roS (wc := (wAr cy a0 r)) (As := [.ref a0, .int x1]) (rest := []) (c_X9_isFree l D cy a0 r x1 h_x1) hCF gX9_isCore_X9_isFree rfl hd_X9_isFree ⟨rfl, rfl, Nat.le_of_ble_eq_true rfl, Nat.le_of_ble_eq_true rfl⟩ hG hP rfl hl.1 rfl (Nat.le_of_ble_eq_true rfl) dX9_isCore_12 ⟨Nat.le_refl _, Nat.le_refl _⟩ ?_
    refine lv_if_eq (tgt := 22) hx hb dX9_isCore_15 (by decide) (fun c_2 => ?_) (fun c_2 => ?_)
    · skip
      refine lv_iconst (v := (0 : Int32)) hx hb dX9_isCore_22 (by decide) ?_
      exact ro_zret hx hb hr hlocks rfl dX9_isCore_23 (by rw [m_X9_isCore, if_neg c_1, if_pos c_2])
    · skip
      refine lv_iconst (v := (1 : Int32)) hx hb dX9_isCore_18 (by decide) ?_
      refine lv_goto (tgt := 23) hx hb dX9_isCore_19 (by decide) ?_
      exact ro_zret hx hb hr hlocks rfl dX9_isCore_23 (by rw [m_X9_isCore, if_neg c_1, if_neg c_2])
def m_X9_isGood (r : (Nat → Int32)) (x1 : Int32) : Int32 := if (m_X9_of r x1 (1 : Int32)) = (4 : Int32) then if (m_X9_isFree r x1) = (0 : Int32) then (0 : Int32) else if (m_X9_of r x1 (3 : Int32)) = (7 : Int32) then (1 : Int32) else (0 : Int32) else (0 : Int32)
theorem hd_X9_isGood : yX9_isGood.cls = RX9 ∧ yX9_isGood.cls ≠ "java/lang/invoke/MethodHandle" ∧ yX9_isGood.cls ≠ "java/lang/invoke/VarHandle" ∧ (parseMethodDescriptor yX9_isGood.desc).map (fun d => d.parameters.length) = some 2 := by decide +kernel
set_option maxHeartbeats 8000000 in
set_option maxRecDepth 20000 in
theorem c_X9_isGood (l : Launch) (D : va_G) (cy : Nat → ClassId) (a0 : Nat) (r : (Nat → Int32)) (x1 : Int32) (h_x1 : iv 0 15 x1) : RO l D cy yX9_isGood wsX9_isGood ({ frames := 2, cells := 0, slots := 0, locals := 43 } : Room) (wAr cy a0 r) [.ref a0, .int x1] (m_X9_isGood r x1) := by
  refine RO.body (by decide) rfl (Nat.le_of_ble_eq_true rfl) ?_
  intro p e s m below meth c hx hb hml hr hts hown hlocks hP hG ls hl
  have hl : lv_has ls 2 [(0, .ref a0), (1, .int x1)] := hl
  have hCF : CallFix p m c cX9_isGood 2 s ([.ref a0, .int x1] : List Value).toArray wsX9_isGood RX9 := ⟨hx, hb, hml, hown, hts⟩
  refine lv_aload_n hx hb dX9_isGood_0 rfl (lv_at hl 0 rfl) ?_
  refine lv_iload_n hx hb dX9_isGood_1 rfl (lv_at hl 1 rfl) ?_
  refine lv_iconst (v := (1 : Int32)) hx hb dX9_isGood_2 (by decide) ?_
  refine roS (wc := (wAr cy a0 r)) (As := [.ref a0, .int x1, .int (1 : Int32)]) (rest := []) (c_X9_of l D cy a0 r x1 (1 : Int32) h_x1 (iv_wide (l2 := 0) (h2 := 4) (iv_lit (v := 1) (by decide)) (by decide))) hCF gX9_isGood_X9_of rfl hd_X9_of ⟨rfl, rfl, Nat.le_of_ble_eq_true rfl, Nat.le_of_ble_eq_true rfl⟩ hG hP rfl hl.1 rfl (Nat.le_of_ble_eq_true rfl) dX9_isGood_3 ⟨Nat.le_refl _, Nat.le_refl _⟩ ?_
  refine lv_iconst (v := (4 : Int32)) hx hb dX9_isGood_6 (by decide) ?_
  refine lv_icmp_ne (tgt := 33) hx hb dX9_isGood_7 (by decide) (fun c_1 => ?_) (fun c_1 => ?_)
  · skip
    refine lv_iconst (v := (0 : Int32)) hx hb dX9_isGood_33 (by decide) ?_
    exact ro_zret hx hb hr hlocks rfl dX9_isGood_34 (by rw [m_X9_isGood, if_neg c_1])
  · skip
    refine lv_aload_n hx hb dX9_isGood_10 rfl (lv_at hl 0 rfl) ?_
    refine lv_iload_n hx hb dX9_isGood_11 rfl (lv_at hl 1 rfl) ?_
    refine roS (wc := (wAr cy a0 r)) (As := [.ref a0, .int x1]) (rest := []) (c_X9_isFree l D cy a0 r x1 h_x1) hCF gX9_isGood_X9_isFree rfl hd_X9_isFree ⟨rfl, rfl, Nat.le_of_ble_eq_true rfl, Nat.le_of_ble_eq_true rfl⟩ hG hP rfl hl.1 rfl (Nat.le_of_ble_eq_true rfl) dX9_isGood_12 ⟨Nat.le_refl _, Nat.le_refl _⟩ ?_
    refine lv_if_eq (tgt := 33) hx hb dX9_isGood_15 (by decide) (fun c_2 => ?_) (fun c_2 => ?_)
    · skip
      refine lv_iconst (v := (0 : Int32)) hx hb dX9_isGood_33 (by decide) ?_
      exact ro_zret hx hb hr hlocks rfl dX9_isGood_34 (by rw [m_X9_isGood, if_pos c_1, if_pos c_2])
    · skip
      refine lv_aload_n hx hb dX9_isGood_18 rfl (lv_at hl 0 rfl) ?_
      refine lv_iload_n hx hb dX9_isGood_19 rfl (lv_at hl 1 rfl) ?_
      refine lv_iconst (v := (3 : Int32)) hx hb dX9_isGood_20 (by decide) ?_
      refine roS (wc := (wAr cy a0 r)) (As := [.ref a0, .int x1, .int (3 : Int32)]) (rest := []) (c_X9_of l D cy a0 r x1 (3 : Int32) h_x1 (iv_wide (l2 := 0) (h2 := 4) (iv_lit (v := 3) (by decide)) (by decide))) hCF gX9_isGood_X9_of rfl hd_X9_of ⟨rfl, rfl, Nat.le_of_ble_eq_true rfl, Nat.le_of_ble_eq_true rfl⟩ hG hP rfl hl.1 rfl (Nat.le_of_ble_eq_true rfl) dX9_isGood_21 ⟨Nat.le_refl _, Nat.le_refl _⟩ ?_
      refine lv_bipush (v := (7 : Int32)) hx hb dX9_isGood_24 (by decide) ?_
      refine lv_icmp_ne (tgt := 33) hx hb dX9_isGood_26 (by decide) (fun c_3 => ?_) (fun c_3 => ?_)
      · skip
        refine lv_iconst (v := (0 : Int32)) hx hb dX9_isGood_33 (by decide) ?_
        exact ro_zret hx hb hr hlocks rfl dX9_isGood_34 (by rw [m_X9_isGood, if_pos c_1, if_neg c_2, if_neg c_3])
      · skip
        refine lv_iconst (v := (1 : Int32)) hx hb dX9_isGood_29 (by decide) ?_
        refine lv_goto (tgt := 34) hx hb dX9_isGood_30 (by decide) ?_
        exact ro_zret hx hb hr hlocks rfl dX9_isGood_34 (by rw [m_X9_isGood, if_pos c_1, if_neg c_2, if_pos c_3])
def m_X9_whyNotExchange (r : (Nat → Int32)) (x1 : Int32) (x2 : Int32) : Int32 := if (m_X9_isUnit r x1) = (0 : Int32) then (1 : Int32) else if (m_X9_isUnit r x2) = (0 : Int32) then (1 : Int32) else if (m_X9_isCore r x1) = (0 : Int32) then (2 : Int32) else if (m_X9_isGood r x2) = (0 : Int32) then (2 : Int32) else if (m_X9_of r x1 (0 : Int32)) = (m_X9_of r x2 (0 : Int32)) then (0 : Int32) else (2 : Int32)
theorem hd_X9_whyNotExchange : yX9_whyNotExchange.cls = RX9 ∧ yX9_whyNotExchange.cls ≠ "java/lang/invoke/MethodHandle" ∧ yX9_whyNotExchange.cls ≠ "java/lang/invoke/VarHandle" ∧ (parseMethodDescriptor yX9_whyNotExchange.desc).map (fun d => d.parameters.length) = some 3 := by decide +kernel
set_option maxHeartbeats 8000000 in
set_option maxRecDepth 20000 in
theorem c_X9_whyNotExchange (l : Launch) (D : va_G) (cy : Nat → ClassId) (a0 : Nat) (r : (Nat → Int32)) (x1 : Int32) (x2 : Int32) (hR : rOK r) : RO l D cy yX9_whyNotExchange wsX9_whyNotExchange ({ frames := 3, cells := 0, slots := 0, locals := 64 } : Room) (wAr cy a0 r) [.ref a0, .int x1, .int x2] (m_X9_whyNotExchange r x1 x2) := by
  refine RO.body (by decide) rfl (Nat.le_of_ble_eq_true rfl) ?_
  intro p e s m below meth c hx hb hml hr hts hown hlocks hP hG ls hl
  have hl : lv_has ls 3 [(0, .ref a0), (1, .int x1), (2, .int x2)] := hl
  have hCF : CallFix p m c cX9_whyNotExchange 3 s ([.ref a0, .int x1, .int x2] : List Value).toArray wsX9_whyNotExchange RX9 := ⟨hx, hb, hml, hown, hts⟩
  refine lv_aload_n hx hb dX9_whyNotExchange_0 rfl (lv_at hl 0 rfl) ?_
  refine lv_iload_n hx hb dX9_whyNotExchange_1 rfl (lv_at hl 1 rfl) ?_
  refine roS (wc := (wAr cy a0 r)) (As := [.ref a0, .int x1]) (rest := []) (c_X9_isUnit l D cy a0 r x1) hCF gX9_whyNotExchange_X9_isUnit rfl hd_X9_isUnit ⟨rfl, rfl, Nat.le_of_ble_eq_true rfl, Nat.le_of_ble_eq_true rfl⟩ hG hP rfl hl.1 rfl (Nat.le_of_ble_eq_true rfl) dX9_whyNotExchange_2 ⟨Nat.le_refl _, Nat.le_refl _⟩ ?_
  refine lv_if_eq (tgt := 16) hx hb dX9_whyNotExchange_5 (by decide) (fun c_1 => ?_) (fun c_1 => ?_)
  · skip
    refine lv_iconst (v := (1 : Int32)) hx hb dX9_whyNotExchange_16 (by decide) ?_
    refine lv_goto (tgt := 56) hx hb dX9_whyNotExchange_17 (by decide) ?_
    exact ro_iret hx hb hr hlocks dX9_whyNotExchange_56 (by rw [m_X9_whyNotExchange, if_pos c_1])
  · skip
    refine lv_aload_n hx hb dX9_whyNotExchange_8 rfl (lv_at hl 0 rfl) ?_
    refine lv_iload_n hx hb dX9_whyNotExchange_9 rfl (lv_at hl 2 rfl) ?_
    refine roS (wc := (wAr cy a0 r)) (As := [.ref a0, .int x2]) (rest := []) (c_X9_isUnit l D cy a0 r x2) hCF gX9_whyNotExchange_X9_isUnit rfl hd_X9_isUnit ⟨rfl, rfl, Nat.le_of_ble_eq_true rfl, Nat.le_of_ble_eq_true rfl⟩ hG hP rfl hl.1 rfl (Nat.le_of_ble_eq_true rfl) dX9_whyNotExchange_10 ⟨Nat.le_refl _, Nat.le_refl _⟩ ?_
    refine lv_if_ne (tgt := 20) hx hb dX9_whyNotExchange_13 (by decide) (fun c_2 => ?_) (fun c_2 => ?_)
    · skip
      refine lv_aload_n hx hb dX9_whyNotExchange_20 rfl (lv_at hl 0 rfl) ?_
      refine lv_iload_n hx hb dX9_whyNotExchange_21 rfl (lv_at hl 1 rfl) ?_
      refine roS (wc := (wAr cy a0 r)) (As := [.ref a0, .int x1]) (rest := []) (c_X9_isCore l D cy a0 r x1 (iv_isUnit hR c_1)) hCF gX9_whyNotExchange_X9_isCore rfl hd_X9_isCore ⟨rfl, rfl, Nat.le_of_ble_eq_true rfl, Nat.le_of_ble_eq_true rfl⟩ hG hP rfl hl.1 rfl (Nat.le_of_ble_eq_true rfl) dX9_whyNotExchange_22 ⟨Nat.le_refl _, Nat.le_refl _⟩ ?_
      refine lv_if_eq (tgt := 51) hx hb dX9_whyNotExchange_25 (by decide) (fun c_3 => ?_) (fun c_3 => ?_)
      · skip
        refine lv_iconst (v := (2 : Int32)) hx hb dX9_whyNotExchange_51 (by decide) ?_
        refine lv_goto (tgt := 56) hx hb dX9_whyNotExchange_52 (by decide) ?_
        exact ro_iret hx hb hr hlocks dX9_whyNotExchange_56 (by rw [m_X9_whyNotExchange, if_neg c_1, if_neg c_2, if_pos c_3])
      · skip
        refine lv_aload_n hx hb dX9_whyNotExchange_28 rfl (lv_at hl 0 rfl) ?_
        refine lv_iload_n hx hb dX9_whyNotExchange_29 rfl (lv_at hl 2 rfl) ?_
        refine roS (wc := (wAr cy a0 r)) (As := [.ref a0, .int x2]) (rest := []) (c_X9_isGood l D cy a0 r x2 (iv_isUnit hR c_2)) hCF gX9_whyNotExchange_X9_isGood rfl hd_X9_isGood ⟨rfl, rfl, Nat.le_of_ble_eq_true rfl, Nat.le_of_ble_eq_true rfl⟩ hG hP rfl hl.1 rfl (Nat.le_of_ble_eq_true rfl) dX9_whyNotExchange_30 ⟨Nat.le_refl _, Nat.le_refl _⟩ ?_
        refine lv_if_eq (tgt := 51) hx hb dX9_whyNotExchange_33 (by decide) (fun c_4 => ?_) (fun c_4 => ?_)
        · skip
          refine lv_iconst (v := (2 : Int32)) hx hb dX9_whyNotExchange_51 (by decide) ?_
          refine lv_goto (tgt := 56) hx hb dX9_whyNotExchange_52 (by decide) ?_
          exact ro_iret hx hb hr hlocks dX9_whyNotExchange_56 (by rw [m_X9_whyNotExchange, if_neg c_1, if_neg c_2, if_neg c_3, if_pos c_4])
        · skip
          refine lv_aload_n hx hb dX9_whyNotExchange_36 rfl (lv_at hl 0 rfl) ?_
          refine lv_iload_n hx hb dX9_whyNotExchange_37 rfl (lv_at hl 1 rfl) ?_
          refine lv_iconst (v := (0 : Int32)) hx hb dX9_whyNotExchange_38 (by decide) ?_
          refine roS (wc := (wAr cy a0 r)) (As := [.ref a0, .int x1, .int (0 : Int32)]) (rest := []) (c_X9_of l D cy a0 r x1 (0 : Int32) (iv_isUnit hR c_1) (iv_wide (l2 := 0) (h2 := 4) (iv_lit (v := 0) (by decide)) (by decide))) hCF gX9_whyNotExchange_X9_of rfl hd_X9_of ⟨rfl, rfl, Nat.le_of_ble_eq_true rfl, Nat.le_of_ble_eq_true rfl⟩ hG hP rfl hl.1 rfl (Nat.le_of_ble_eq_true rfl) dX9_whyNotExchange_39 ⟨Nat.le_refl _, Nat.le_refl _⟩ ?_
          refine lv_aload_n hx hb dX9_whyNotExchange_42 rfl (lv_at hl 0 rfl) ?_
          refine lv_iload_n hx hb dX9_whyNotExchange_43 rfl (lv_at hl 2 rfl) ?_
          refine lv_iconst (v := (0 : Int32)) hx hb dX9_whyNotExchange_44 (by decide) ?_
          refine roS (wc := (wAr cy a0 r)) (As := [.ref a0, .int x2, .int (0 : Int32)]) (rest := [.int (m_X9_of r x1 (0 : Int32))]) (c_X9_of l D cy a0 r x2 (0 : Int32) (iv_isUnit hR c_2) (iv_wide (l2 := 0) (h2 := 4) (iv_lit (v := 0) (by decide)) (by decide))) hCF gX9_whyNotExchange_X9_of rfl hd_X9_of ⟨rfl, rfl, Nat.le_of_ble_eq_true rfl, Nat.le_of_ble_eq_true rfl⟩ hG hP rfl hl.1 rfl (Nat.le_of_ble_eq_true rfl) dX9_whyNotExchange_45 ⟨Nat.le_refl _, Nat.le_refl _⟩ ?_
          refine lv_icmp_eq (tgt := 55) hx hb dX9_whyNotExchange_48 (by decide) (fun c_5 => ?_) (fun c_5 => ?_)
          · skip
            refine lv_iconst (v := (0 : Int32)) hx hb dX9_whyNotExchange_55 (by decide) ?_
            exact ro_iret hx hb hr hlocks dX9_whyNotExchange_56 (by rw [m_X9_whyNotExchange, if_neg c_1, if_neg c_2, if_neg c_3, if_neg c_4, if_pos c_5])
          · skip
            refine lv_iconst (v := (2 : Int32)) hx hb dX9_whyNotExchange_51 (by decide) ?_
            refine lv_goto (tgt := 56) hx hb dX9_whyNotExchange_52 (by decide) ?_
            exact ro_iret hx hb hr hlocks dX9_whyNotExchange_56 (by rw [m_X9_whyNotExchange, if_neg c_1, if_neg c_2, if_neg c_3, if_neg c_4, if_neg c_5])
    · skip
      refine lv_iconst (v := (1 : Int32)) hx hb dX9_whyNotExchange_16 (by decide) ?_
      refine lv_goto (tgt := 56) hx hb dX9_whyNotExchange_17 (by decide) ?_
      exact ro_iret hx hb hr hlocks dX9_whyNotExchange_56 (by rw [m_X9_whyNotExchange, if_neg c_1, if_pos c_2])
theorem wn_nn_Exchange (r : Nat → Int32) (x1 x2 : Int32) : 0 ≤ (m_X9_whyNotExchange r x1 x2).toInt := by
  unfold m_X9_whyNotExchange
  repeat' split
  all_goals decide
theorem wn_Exchange_0 {r : Nat → Int32} {x1 x2 : Int32} (hR : rOK r) (c : m_X9_whyNotExchange r x1 x2 = 0) : iv 0 15 x1 := by
  unfold m_X9_whyNotExchange at c
  split at c
  · exact absurd c (by decide)
  rename_i h0
  exact iv_isUnit hR h0
theorem wn_Exchange_1 {r : Nat → Int32} {x1 x2 : Int32} (hR : rOK r) (c : m_X9_whyNotExchange r x1 x2 = 0) : iv 0 15 x2 := by
  unfold m_X9_whyNotExchange at c
  split at c
  · exact absurd c (by decide)
  rename_i h0
  split at c
  · exact absurd c (by decide)
  rename_i h1
  exact iv_isUnit hR h1
def m_X9_priceOf (r : (Nat → Int32)) (x1 : Int32) : Int32 := (r (3 : Int32).toNatClampNeg) + ((r (4 : Int32).toNatClampNeg) * (m_X9_missing r x1))
theorem hd_X9_priceOf : yX9_priceOf.cls = RX9 ∧ yX9_priceOf.cls ≠ "java/lang/invoke/MethodHandle" ∧ yX9_priceOf.cls ≠ "java/lang/invoke/VarHandle" ∧ (parseMethodDescriptor yX9_priceOf.desc).map (fun d => d.parameters.length) = some 2 := by decide +kernel
set_option maxHeartbeats 8000000 in
set_option maxRecDepth 20000 in
theorem c_X9_priceOf (l : Launch) (D : va_G) (cy : Nat → ClassId) (a0 : Nat) (r : (Nat → Int32)) (x1 : Int32) (h_x1 : iv 0 15 x1) : RO l D cy yX9_priceOf wsX9_priceOf ({ frames := 2, cells := 0, slots := 0, locals := 44 } : Room) (wAr cy a0 r) [.ref a0, .int x1] (m_X9_priceOf r x1) := by
  refine RO.body (by decide) rfl (Nat.le_of_ble_eq_true rfl) ?_
  intro p e s m below meth c hx hb hml hr hts hown hlocks hP hG ls hl
  have hl : lv_has ls 2 [(0, .ref a0), (1, .int x1)] := hl
  have hCF : CallFix p m c cX9_priceOf 2 s ([.ref a0, .int x1] : List Value).toArray wsX9_priceOf RX9 := ⟨hx, hb, hml, hown, hts⟩
  refine lv_aload_n hx hb dX9_priceOf_0 rfl (lv_at hl 0 rfl) ?_
  refine lv_iconst (v := (3 : Int32)) hx hb dX9_priceOf_1 (by decide) ?_
  refine va_iald hx hb hG.1 hP 0 0 (n := 383) (f := r) g_Ar_0 rfl (bd_of (by decide) (by decide)) dX9_priceOf_2 ?_
  refine lv_aload_n hx hb dX9_priceOf_3 rfl (lv_at hl 0 rfl) ?_
  refine lv_iconst (v := (4 : Int32)) hx hb dX9_priceOf_4 (by decide) ?_
  refine va_iald hx hb hG.1 hP 0 0 (n := 383) (f := r) g_Ar_0 rfl (bd_of (by decide) (by decide)) dX9_priceOf_5 ?_
  refine lv_aload_n hx hb dX9_priceOf_6 rfl (lv_at hl 0 rfl) ?_
  refine lv_iload_n hx hb dX9_priceOf_7 rfl (lv_at hl 1 rfl) ?_
  refine roS (wc := (wAr cy a0 r)) (As := [.ref a0, .int x1]) (rest := [.int (r (4 : Int32).toNatClampNeg), .int (r (3 : Int32).toNatClampNeg)]) (c_X9_missing l D cy a0 r x1 h_x1) hCF gX9_priceOf_X9_missing rfl hd_X9_missing ⟨rfl, rfl, Nat.le_of_ble_eq_true rfl, Nat.le_of_ble_eq_true rfl⟩ hG hP rfl hl.1 rfl (Nat.le_of_ble_eq_true rfl) dX9_priceOf_8 ⟨Nat.le_refl _, Nat.le_refl _⟩ ?_
  refine lv_imul hx hb dX9_priceOf_11 ?_
  refine lv_iadd hx hb dX9_priceOf_12 ?_
  exact ro_iret hx hb hr hlocks dX9_priceOf_13 (by rw [m_X9_priceOf])
def m_X9_give (r : (Nat → Int32)) (x1 : Int32) (x2 : Int32) : (Nat → Int32) := m_X9_lay (m_X9_lay r x1 (1 : Int32) x2) x1 (2 : Int32) x2
theorem hd_X9_give : yX9_give.cls = RX9 ∧ yX9_give.cls ≠ "java/lang/invoke/MethodHandle" ∧ yX9_give.cls ≠ "java/lang/invoke/VarHandle" ∧ (parseMethodDescriptor yX9_give.desc).map (fun d => d.parameters.length) = some 3 := by decide +kernel
set_option maxHeartbeats 8000000 in
set_option maxRecDepth 20000 in
theorem c_X9_give (l : Launch) (D : va_G) (cy : Nat → ClassId) (a0 : Nat) (r : (Nat → Int32)) (x1 : Int32) (x2 : Int32) (h_x1 : iv 0 15 x1) : MV l D cy yX9_give wsX9_give ({ frames := 1, cells := 0, slots := 0, locals := 23 } : Room) (wAr cy a0 r) (wAr cy a0 (m_X9_give r x1 x2)) [.ref a0, .int x1, .int x2] := by
  refine MV.body (by decide) rfl (Nat.le_of_ble_eq_true rfl) ?_
  intro p e s m below meth c hx hb hml hr hts hown hlocks hP hG ls hl A hD hA hS
  have hl : lv_has ls 3 [(0, .ref a0), (1, .int x1), (2, .int x2)] := hl
  have hCF : CallFix p m c cX9_give 3 s ([.ref a0, .int x1, .int x2] : List Value).toArray wsX9_give RX9 := ⟨hx, hb, hml, hown, hts⟩
  have hP : va_P D vwCl (wAr cy a0 r) s.heap := hP
  refine lv_aload_n hx hb dX9_give_0 rfl (lv_at hl 0 rfl) ?_
  refine lv_iload_n hx hb dX9_give_1 rfl (lv_at hl 1 rfl) ?_
  refine lv_iconst (v := (1 : Int32)) hx hb dX9_give_2 (by decide) ?_
  refine lv_iload_n hx hb dX9_give_3 rfl (lv_at hl 2 rfl) ?_
  refine mvS (A0 := A) (wc := (wAr cy a0 r)) (As := [.ref a0, .int x1, .int (1 : Int32), .int x2]) (rest := []) (c_X9_lay l D cy a0 r x1 (1 : Int32) x2 h_x1 (iv_wide (l2 := 0) (h2 := 4) (iv_lit (v := 1) (by decide)) (by decide))) hCF gX9_give_X9_lay rfl hd_X9_lay ⟨rfl, rfl, Nat.le_of_ble_eq_true rfl, Nat.le_of_ble_eq_true rfl⟩ hG hP hD hS hA [0] rfl c_Ar_Ar h_Ar rfl hl.1 rfl (Nat.le_of_ble_eq_true rfl) dX9_give_4 ⟨Nat.le_refl _, Nat.le_refl _⟩ (fun H locs hP hD hS => ?_)
  have hP : va_P D vwCl (wAr cy a0 (m_X9_lay r x1 (1 : Int32) x2)) H := va_P_eq hP r_Ar_Ar
  have hD : va_D A (wAr cy a0 (m_X9_lay r x1 (1 : Int32) x2)) := va_D_eq hD r_Ar_Ar
  refine lv_aload_n hx hb dX9_give_7 rfl (lv_at hl 0 rfl) ?_
  refine lv_iload_n hx hb dX9_give_8 rfl (lv_at hl 1 rfl) ?_
  refine lv_iconst (v := (2 : Int32)) hx hb dX9_give_9 (by decide) ?_
  refine lv_iload_n hx hb dX9_give_10 rfl (lv_at hl 2 rfl) ?_
  refine mvS (A0 := A) (wc := (wAr cy a0 (m_X9_lay r x1 (1 : Int32) x2))) (As := [.ref a0, .int x1, .int (2 : Int32), .int x2]) (rest := []) (c_X9_lay l D cy a0 (m_X9_lay r x1 (1 : Int32) x2) x1 (2 : Int32) x2 h_x1 (iv_wide (l2 := 0) (h2 := 4) (iv_lit (v := 2) (by decide)) (by decide))) hCF gX9_give_X9_lay rfl hd_X9_lay ⟨rfl, rfl, Nat.le_of_ble_eq_true rfl, Nat.le_of_ble_eq_true rfl⟩ hG hP hD hS hA [0] rfl c_Ar_Ar h_Ar rfl hl.1 rfl (Nat.le_of_ble_eq_true rfl) dX9_give_11 ⟨Nat.le_refl _, Nat.le_refl _⟩ (fun H locs hP hD hS => ?_)
  have hP : va_P D vwCl (wAr cy a0 (m_X9_lay (m_X9_lay r x1 (1 : Int32) x2) x1 (2 : Int32) x2)) H := va_P_eq hP r_Ar_Ar
  have hD : va_D A (wAr cy a0 (m_X9_lay (m_X9_lay r x1 (1 : Int32) x2) x1 (2 : Int32) x2)) := va_D_eq hD r_Ar_Ar
  exact mu_vret hx hb hr hlocks hP hS dX9_give_14 (by rw [m_X9_give])
def m_X9_exchangeOn (r : (Nat → Int32)) (x1 : Int32) (x2 : Int32) : Int32 × (Nat → Int32) := (m_X9_priceOf r x1, upd (m_X9_pays (m_X9_give (m_X9_give r x1 (4 : Int32)) x2 (m_X9_of r x1 (1 : Int32))) (m_X9_of r x1 (1 : Int32)) (4 : Int32) (m_X9_priceOf r x1)) (7 : Int32).toNatClampNeg (((m_X9_pays (m_X9_give (m_X9_give r x1 (4 : Int32)) x2 (m_X9_of r x1 (1 : Int32))) (m_X9_of r x1 (1 : Int32)) (4 : Int32) (m_X9_priceOf r x1)) (7 : Int32).toNatClampNeg) + (1 : Int32)))
theorem hd_X9_exchangeOn : yX9_exchangeOn.cls = RX9 ∧ yX9_exchangeOn.cls ≠ "java/lang/invoke/MethodHandle" ∧ yX9_exchangeOn.cls ≠ "java/lang/invoke/VarHandle" ∧ (parseMethodDescriptor yX9_exchangeOn.desc).map (fun d => d.parameters.length) = some 3 := by decide +kernel
set_option maxHeartbeats 8000000 in
set_option maxRecDepth 20000 in
theorem c_X9_exchangeOn (l : Launch) (D : va_G) (cy : Nat → ClassId) (a0 : Nat) (r : (Nat → Int32)) (x1 : Int32) (x2 : Int32) (hR : rOK r) (h_x1 : iv 0 15 x1) (h_x2 : iv 0 15 x2) : MU l D cy yX9_exchangeOn wsX9_exchangeOn ({ frames := 3, cells := 0, slots := 0, locals := 65 } : Room) (wAr cy a0 r) (wAr cy a0 (m_X9_exchangeOn r x1 x2).2) [.ref a0, .int x1, .int x2] (m_X9_exchangeOn r x1 x2).1 := by
  refine MU.body (by decide) rfl (Nat.le_of_ble_eq_true rfl) ?_
  intro p e s m below meth c hx hb hml hr hts hown hlocks hP hG ls hl A hD hA hS
  have hl : lv_has ls 5 [(0, .ref a0), (1, .int x1), (2, .int x2)] := hl
  have hCF : CallFix p m c cX9_exchangeOn 5 s ([.ref a0, .int x1, .int x2] : List Value).toArray wsX9_exchangeOn RX9 := ⟨hx, hb, hml, hown, hts⟩
  have hP : va_P D vwCl (wAr cy a0 r) s.heap := hP
  refine lv_aload_n hx hb dX9_exchangeOn_0 rfl (lv_at hl 0 rfl) ?_
  refine lv_iload_n hx hb dX9_exchangeOn_1 rfl (lv_at hl 1 rfl) ?_
  refine lv_iconst (v := (1 : Int32)) hx hb dX9_exchangeOn_2 (by decide) ?_
  refine roS (wc := (wAr cy a0 r)) (As := [.ref a0, .int x1, .int (1 : Int32)]) (rest := []) (c_X9_of l D cy a0 r x1 (1 : Int32) h_x1 (iv_wide (l2 := 0) (h2 := 4) (iv_lit (v := 1) (by decide)) (by decide))) hCF gX9_exchangeOn_X9_of rfl hd_X9_of ⟨rfl, rfl, Nat.le_of_ble_eq_true rfl, Nat.le_of_ble_eq_true rfl⟩ hG hP rfl hl.1 rfl (Nat.le_of_ble_eq_true rfl) dX9_exchangeOn_3 ⟨Nat.le_refl _, Nat.le_refl _⟩ ?_
  refine lv_istore_n (lv' := [(3, .int (m_X9_of r x1 (1 : Int32))), (0, .ref a0), (1, .int x1), (2, .int x2)]) hx hb dX9_exchangeOn_6 rfl hl (by decide) rfl (fun ls hl => ?_)
  refine lv_aload_n hx hb dX9_exchangeOn_7 rfl (lv_at hl 1 rfl) ?_
  refine lv_iload_n hx hb dX9_exchangeOn_8 rfl (lv_at hl 2 rfl) ?_
  refine roS (wc := (wAr cy a0 r)) (As := [.ref a0, .int x1]) (rest := []) (c_X9_priceOf l D cy a0 r x1 h_x1) hCF gX9_exchangeOn_X9_priceOf rfl hd_X9_priceOf ⟨rfl, rfl, Nat.le_of_ble_eq_true rfl, Nat.le_of_ble_eq_true rfl⟩ hG hP rfl hl.1 rfl (Nat.le_of_ble_eq_true rfl) dX9_exchangeOn_9 ⟨Nat.le_refl _, Nat.le_refl _⟩ ?_
  refine lv_istore (lv' := [(4, .int (m_X9_priceOf r x1)), (3, .int (m_X9_of r x1 (1 : Int32))), (0, .ref a0), (1, .int x1), (2, .int x2)]) hx hb dX9_exchangeOn_12 hl (by decide) rfl (fun ls hl => ?_)
  refine lv_aload_n hx hb dX9_exchangeOn_14 rfl (lv_at hl 2 rfl) ?_
  refine lv_iload_n hx hb dX9_exchangeOn_15 rfl (lv_at hl 3 rfl) ?_
  refine lv_iconst (v := (4 : Int32)) hx hb dX9_exchangeOn_16 (by decide) ?_
  refine mvS (A0 := A) (wc := (wAr cy a0 r)) (As := [.ref a0, .int x1, .int (4 : Int32)]) (rest := []) (c_X9_give l D cy a0 r x1 (4 : Int32) h_x1) hCF gX9_exchangeOn_X9_give rfl hd_X9_give ⟨rfl, rfl, Nat.le_of_ble_eq_true rfl, Nat.le_of_ble_eq_true rfl⟩ hG hP hD hS hA [0] rfl c_Ar_Ar h_Ar rfl hl.1 rfl (Nat.le_of_ble_eq_true rfl) dX9_exchangeOn_17 ⟨Nat.le_refl _, Nat.le_refl _⟩ (fun H locs hP hD hS => ?_)
  have hP : va_P D vwCl (wAr cy a0 (m_X9_give r x1 (4 : Int32))) H := va_P_eq hP r_Ar_Ar
  have hD : va_D A (wAr cy a0 (m_X9_give r x1 (4 : Int32))) := va_D_eq hD r_Ar_Ar
  refine lv_aload_n hx hb dX9_exchangeOn_20 rfl (lv_at hl 2 rfl) ?_
  refine lv_iload_n hx hb dX9_exchangeOn_21 rfl (lv_at hl 4 rfl) ?_
  refine lv_iload_n hx hb dX9_exchangeOn_22 rfl (lv_at hl 1 rfl) ?_
  refine mvS (A0 := A) (wc := (wAr cy a0 (m_X9_give r x1 (4 : Int32)))) (As := [.ref a0, .int x2, .int (m_X9_of r x1 (1 : Int32))]) (rest := []) (c_X9_give l D cy a0 (m_X9_give r x1 (4 : Int32)) x2 (m_X9_of r x1 (1 : Int32)) h_x2) hCF gX9_exchangeOn_X9_give rfl hd_X9_give ⟨rfl, rfl, Nat.le_of_ble_eq_true rfl, Nat.le_of_ble_eq_true rfl⟩ hG hP hD hS hA [0] rfl c_Ar_Ar h_Ar rfl hl.1 rfl (Nat.le_of_ble_eq_true rfl) dX9_exchangeOn_23 ⟨Nat.le_refl _, Nat.le_refl _⟩ (fun H locs hP hD hS => ?_)
  have hP : va_P D vwCl (wAr cy a0 (m_X9_give (m_X9_give r x1 (4 : Int32)) x2 (m_X9_of r x1 (1 : Int32)))) H := va_P_eq hP r_Ar_Ar
  have hD : va_D A (wAr cy a0 (m_X9_give (m_X9_give r x1 (4 : Int32)) x2 (m_X9_of r x1 (1 : Int32)))) := va_D_eq hD r_Ar_Ar
  refine lv_aload_n hx hb dX9_exchangeOn_26 rfl (lv_at hl 2 rfl) ?_
  refine lv_iload_n hx hb dX9_exchangeOn_27 rfl (lv_at hl 1 rfl) ?_
  refine lv_iconst (v := (4 : Int32)) hx hb dX9_exchangeOn_28 (by decide) ?_
  refine lv_iload hx hb dX9_exchangeOn_29 (lv_at hl 0 rfl) ?_
  refine mvS (A0 := A) (wc := (wAr cy a0 (m_X9_give (m_X9_give r x1 (4 : Int32)) x2 (m_X9_of r x1 (1 : Int32))))) (As := [.ref a0, .int (m_X9_of r x1 (1 : Int32)), .int (4 : Int32), .int (m_X9_priceOf r x1)]) (rest := []) (c_X9_pays l D cy a0 (m_X9_give (m_X9_give r x1 (4 : Int32)) x2 (m_X9_of r x1 (1 : Int32))) (m_X9_of r x1 (1 : Int32)) (4 : Int32) (m_X9_priceOf r x1) (rk_of1 hR h_x1) (iv_wide (l2 := 0) (h2 := 4) (iv_lit (v := 4) (by decide)) (by decide))) hCF gX9_exchangeOn_X9_pays rfl hd_X9_pays ⟨rfl, rfl, Nat.le_of_ble_eq_true rfl, Nat.le_of_ble_eq_true rfl⟩ hG hP hD hS hA [0] rfl c_Ar_Ar h_Ar rfl hl.1 rfl (Nat.le_of_ble_eq_true rfl) dX9_exchangeOn_31 ⟨Nat.le_refl _, Nat.le_refl _⟩ (fun H locs hP hD hS => ?_)
  have hP : va_P D vwCl (wAr cy a0 (m_X9_pays (m_X9_give (m_X9_give r x1 (4 : Int32)) x2 (m_X9_of r x1 (1 : Int32))) (m_X9_of r x1 (1 : Int32)) (4 : Int32) (m_X9_priceOf r x1))) H := va_P_eq hP r_Ar_Ar
  have hD : va_D A (wAr cy a0 (m_X9_pays (m_X9_give (m_X9_give r x1 (4 : Int32)) x2 (m_X9_of r x1 (1 : Int32))) (m_X9_of r x1 (1 : Int32)) (4 : Int32) (m_X9_priceOf r x1))) := va_D_eq hD r_Ar_Ar
  refine lv_aload_n hx hb dX9_exchangeOn_34 rfl (lv_at hl 2 rfl) ?_
  refine lv_bipush (v := (7 : Int32)) hx hb dX9_exchangeOn_35 (by decide) ?_
  refine lv_dup2_11 hx hb dX9_exchangeOn_37 rfl rfl ?_
  refine va_iald hx hb hG.1 hP 0 0 (n := 383) (f := (m_X9_pays (m_X9_give (m_X9_give r x1 (4 : Int32)) x2 (m_X9_of r x1 (1 : Int32))) (m_X9_of r x1 (1 : Int32)) (4 : Int32) (m_X9_priceOf r x1))) g_Ar_0 rfl (bd_of (by decide) (by decide)) dX9_exchangeOn_38 ?_
  refine lv_iconst (v := (1 : Int32)) hx hb dX9_exchangeOn_39 (by decide) ?_
  refine lv_iadd hx hb dX9_exchangeOn_40 ?_
  refine va_iast hx hb hG.1 hP hD hS 0 0 (n := 383) (f := (m_X9_pays (m_X9_give (m_X9_give r x1 (4 : Int32)) x2 (m_X9_of r x1 (1 : Int32))) (m_X9_of r x1 (1 : Int32)) (4 : Int32) (m_X9_priceOf r x1))) g_Ar_0 rfl (bd_of (by decide) (by decide)) dX9_exchangeOn_41 (fun H locs hP hD hS => ?_)
  have hP : va_P D vwCl (wAr cy a0 (upd (m_X9_pays (m_X9_give (m_X9_give r x1 (4 : Int32)) x2 (m_X9_of r x1 (1 : Int32))) (m_X9_of r x1 (1 : Int32)) (4 : Int32) (m_X9_priceOf r x1)) (7 : Int32).toNatClampNeg (((m_X9_pays (m_X9_give (m_X9_give r x1 (4 : Int32)) x2 (m_X9_of r x1 (1 : Int32))) (m_X9_of r x1 (1 : Int32)) (4 : Int32) (m_X9_priceOf r x1)) (7 : Int32).toNatClampNeg) + (1 : Int32)))) H := va_P_eq hP s_Ar_0
  have hD : va_D A (wAr cy a0 (upd (m_X9_pays (m_X9_give (m_X9_give r x1 (4 : Int32)) x2 (m_X9_of r x1 (1 : Int32))) (m_X9_of r x1 (1 : Int32)) (4 : Int32) (m_X9_priceOf r x1)) (7 : Int32).toNatClampNeg (((m_X9_pays (m_X9_give (m_X9_give r x1 (4 : Int32)) x2 (m_X9_of r x1 (1 : Int32))) (m_X9_of r x1 (1 : Int32)) (4 : Int32) (m_X9_priceOf r x1)) (7 : Int32).toNatClampNeg) + (1 : Int32)))) := va_D_eq hD s_Ar_0
  refine lv_iload hx hb dX9_exchangeOn_42 (lv_at hl 0 rfl) ?_
  exact mu_iret hx hb hr hlocks hP hS dX9_exchangeOn_44 (by rw [m_X9_exchangeOn]) (by rw [m_X9_exchangeOn])
