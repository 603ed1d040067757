def m_X9_in (x1 : Int64) (x2 : Int64) (x3 : Int64) : Int32 := if (lg_cmp x1 x2) < (0 : Int32) then (0 : Int32) else if (0 : Int32) < (lg_cmp x1 x3) then (0 : Int32) else (1 : Int32)
theorem min_spec {a b c : Int64} (h : ¬ m_X9_in a b c = 0) : b.toInt ≤ a.toInt ∧ a.toInt ≤ c.toInt := by
  unfold m_X9_in at h
  split at h
  · exact absurd rfl h
  · rename_i h1
    split at h
    · exact absurd rfl h
    · rename_i h2
      rw [lg_cmp_lt, Int64.lt_iff_toInt_lt] at h1
      rw [lg_cmp_gt, Int64.lt_iff_toInt_lt] at h2
      omega
theorem min_of {a b c : Int64} (h1 : b.toInt ≤ a.toInt) (h2 : a.toInt ≤ c.toInt) : m_X9_in a b c = 1 := by
  unfold m_X9_in
  rw [if_neg (by rw [lg_cmp_lt, Int64.lt_iff_toInt_lt]; omega), if_neg (by rw [lg_cmp_gt, Int64.lt_iff_toInt_lt]; omega)]
theorem b01_in (a b c : Int64) : m_X9_in a b c = 0 ∨ m_X9_in a b c = 1 := by
  unfold m_X9_in
  split
  · exact Or.inl rfl
  · split
    · exact Or.inl rfl
    · exact Or.inr rfl
theorem nz {x : Int32} (h : x = 0 ∨ x = 1) : narrow .boolean (.int x) = .int x := by
  rcases h with rfl | rfl <;> rfl
theorem i64_i (x : Int32) : x.toInt64.toInt = x.toInt := Int32.toInt_toInt64 x
theorem iv_min {x : Int32} {lo hi : Int} {a b : Int64} (c : ¬ m_X9_in x.toInt64 a b = 0) (ha : a.toInt = lo := by decide) (hb : b.toInt = hi := by decide) : iv lo hi x := by
  have h := min_spec c
  rw [i64_i] at h
  exact ⟨by omega, by omega⟩
theorem iv_tnc {x : Int32} {h : Int} {n : Nat} (a : iv 0 h x) (e : h < n) : x.toNatClampNeg < n := tnc_lt a.1 (by have := a.2; omega)
def m_X9_of (r : (Nat → Int32)) (x1 : Int32) (x2 : Int32) : Int32 := r (((8 : Int32) + ((5 : Int32) * x1)) + x2).toNatClampNeg
theorem tnc_of {x : Int32} {n : Nat} (h : x.toInt = n) : x.toNatClampNeg = n := by
  have : x.toNatClampNeg = x.toInt.toNat := rfl
  omega
theorem iv_int {x : Int32} {h : Int} (a : iv 0 h x) : x.toInt = x.toNatClampNeg := by
  have : x.toNatClampNeg = x.toInt.toNat := rfl
  have := a.1
  omega
theorem ix_of {u w : Int32} (hu : iv 0 15 u) (hw : iv 0 4 w) : ((8 + 5 * u) + w).toNatClampNeg = 8 + 5 * u.toNatClampNeg + w.toNatClampNeg := by
  have e5 : (5 : Int32).toInt = 5 := by decide
  have e8 : (8 : Int32).toInt = 8 := by decide
  have hu1 := hu.1
  have hu2 := hu.2
  have hw1 := hw.1
  have hw2 := hw.2
  have a1 : ((5 : Int32) * u).toInt = 5 * u.toInt := by rw [i32_mul (by rw [e5]; omega) (by rw [e5]; omega), e5]
  have a2 : ((8 : Int32) + 5 * u).toInt = 8 + 5 * u.toInt := by rw [i32_add (by rw [a1, e8]; omega) (by rw [a1, e8]; omega), a1, e8]
  have a3 : ((8 : Int32) + 5 * u + w).toInt = 8 + 5 * u.toInt + w.toInt := by rw [i32_add (by rw [a2]; omega) (by rw [a2]; omega), a2]
  have b1 := iv_int hu
  have b2 := iv_int hw
  exact tnc_of (by omega)
theorem of_eq {r : Nat → Int32} {u w : Int32} (hu : iv 0 15 u) (hw : iv 0 4 w) : m_X9_of r u w = r (8 + 5 * u.toNatClampNeg + w.toNatClampNeg) := by
  unfold m_X9_of
  rw [ix_of hu hw]
theorem rk_of0 {r : Nat → Int32} {u : Int32} (hR : rOK r) (hu : iv 0 15 u) : iv 0 2 (m_X9_of r u 0) := by
  rw [of_eq hu (iv_wide (iv_lit (v := 0) (by decide)) (by decide))]
  exact (hR.2.1 _ (iv_tnc (n := 16) hu (by decide))).1
theorem rk_of1 {r : Nat → Int32} {u : Int32} (hR : rOK r) (hu : iv 0 15 u) : iv 0 4 (m_X9_of r u 1) := by
  rw [of_eq hu (iv_wide (iv_lit (v := 1) (by decide)) (by decide))]
  exact (hR.2.1 _ (iv_tnc (n := 16) hu (by decide))).2.1
theorem rk_of2 {r : Nat → Int32} {u : Int32} (hR : rOK r) (hu : iv 0 15 u) : iv 0 4 (m_X9_of r u 2) := by
  rw [of_eq hu (iv_wide (iv_lit (v := 2) (by decide)) (by decide))]
  exact (hR.2.1 _ (iv_tnc (n := 16) hu (by decide))).2.2.1
theorem rk_of3 {r : Nat → Int32} {u : Int32} (hR : rOK r) (hu : iv 0 15 u) : iv 0 7 (m_X9_of r u 3) := by
  rw [of_eq hu (iv_wide (iv_lit (v := 3) (by decide)) (by decide))]
  exact (hR.2.1 _ (iv_tnc (n := 16) hu (by decide))).2.2.2
theorem rk_many {r : Nat → Int32} (hR : rOK r) : iv 0 16 (r (1 : Int32).toNatClampNeg) := hR.1
theorem rok_free {r : Nat → Int32} {k : Nat} {v : Int32} (hR : rOK r) (hk : k = 0 ∨ (2 ≤ k ∧ k ≤ 7) ∨ (88 ≤ k ∧ k ≤ 317)) : rOK (upd r k v) := by
  obtain ⟨h1, h2, h3⟩ := hR
  refine ⟨?_, fun u hu => ?_, fun h hh => ?_⟩
  · rw [pk_un (by omega)]; exact h1
  · have := h2 u hu
    rw [pk_un (by omega), pk_un (by omega), pk_un (by omega), pk_un (by omega)]
    exact this
  · rw [pk_un (by omega)]; exact h3 h hh
def m_X9_lay (r : (Nat → Int32)) (x1 : Int32) (x2 : Int32) (x3 : Int32) : (Nat → Int32) := upd r (((8 : Int32) + ((5 : Int32) * x1)) + x2).toNatClampNeg x3
theorem lay_eq {r : Nat → Int32} {u w v : Int32} (hu : iv 0 15 u) (hw : iv 0 4 w) : m_X9_lay r u w v = upd r (8 + 5 * u.toNatClampNeg + w.toNatClampNeg) v := by
  unfold m_X9_lay
  rw [ix_of hu hw]
theorem rok_lay {r : Nat → Int32} {u w v : Int32} (hR : rOK r) (hu : iv 0 15 u) (hw : iv 0 4 w) (h0 : w.toInt = 0 → iv 0 2 v) (h1 : w.toInt = 1 → iv 0 4 v) (h2 : w.toInt = 2 → iv 0 4 v) (h3 : w.toInt = 3 → iv 0 7 v) : rOK (m_X9_lay r u w v) := by
  rw [lay_eq hu hw]
  have b1 := iv_int hu
  have b2 := iv_int hw
  have := hu.2
  have := hw.2
  obtain ⟨g1, g2, g3⟩ := hR
  refine ⟨?_, fun x hx => ?_, fun h hh => ?_⟩
  · rw [pk_un (by omega)]; exact g1
  · obtain ⟨q0, q1, q2, q3⟩ := g2 x hx
    refine ⟨?_, ?_, ?_, ?_⟩
    · by_cases e : 8 + 5 * x = 8 + 5 * u.toNatClampNeg + w.toNatClampNeg
      · rw [e, pk_us]; exact h0 (by omega)
      · rw [pk_un e]; exact q0
    · by_cases e : 8 + 5 * x + 1 = 8 + 5 * u.toNatClampNeg + w.toNatClampNeg
      · rw [e, pk_us]; exact h1 (by omega)
      · rw [pk_un e]; exact q1
    · by_cases e : 8 + 5 * x + 2 = 8 + 5 * u.toNatClampNeg + w.toNatClampNeg
      · rw [e, pk_us]; exact h2 (by omega)
      · rw [pk_un e]; exact q2
    · by_cases e : 8 + 5 * x + 3 = 8 + 5 * u.toNatClampNeg + w.toNatClampNeg
      · rw [e, pk_us]; exact h3 (by omega)
      · rw [pk_un e]; exact q3
  · rw [pk_un (by omega)]; exact g3 h hh
theorem i32_2 : (2 : Int32).toInt = 2 := by decide
theorem i32_3 : (3 : Int32).toInt = 3 := by decide
theorem rok_lay3 {r : Nat → Int32} {u v : Int32} (hR : rOK r) (hu : iv 0 15 u) (hv : iv 0 7 v) : rOK (m_X9_lay r u 3 v) :=
  rok_lay hR hu (iv_wide (iv_lit (v := 3) (by decide)) (by decide)) (fun h => by rw [i32_3] at h; omega) (fun h => by rw [i32_3] at h; omega) (fun h => by rw [i32_3] at h; omega) (fun _ => hv)
def m_X9_isUnit (r : (Nat → Int32)) (x1 : Int32) : Int32 := m_X9_in x1.toInt64 (0 : Int64) ((r (1 : Int32).toNatClampNeg) - (1 : Int32)).toInt64
theorem iv_isUnit {r : Nat → Int32} {u : Int32} (hR : rOK r) (c : ¬ m_X9_isUnit r u = 0) : iv 0 15 u := by
  unfold m_X9_isUnit at c
  have h := min_spec c
  rw [i64_i, i64_i] at h
  have h1 := rk_many hR
  have h2 := iv_sub (l := -1) (h := 15) h1 (iv_lit (v := 1) (x := (1 : Int32)) (by decide)) (by decide)
  have e0 : (0 : Int64).toInt = 0 := by decide
  have := h2.2
  exact ⟨by omega, by omega⟩
def m_X9_isHolder (x1 : Int32) : Int32 := m_X9_in x1.toInt64 (0 : Int64) (4 : Int64)
theorem iv_isHolder {x : Int32} (c : ¬ m_X9_isHolder x = 0) : iv 0 4 x := by
  unfold m_X9_isHolder at c
  exact iv_min c
def m_X9_isKind (x1 : Int32) : Int32 := m_X9_in x1.toInt64 (0 : Int64) (2 : Int64)
theorem iv_isKind {x : Int32} (c : ¬ m_X9_isKind x = 0) : iv 0 2 x := by
  unfold m_X9_isKind at c
  exact iv_min c
def m_X9_isPart (x1 : Int32) : Int32 := m_X9_in x1.toInt64 (0 : Int64) (2 : Int64)
theorem iv_isPart {x : Int32} (c : ¬ m_X9_isPart x = 0) : iv 0 2 x := by
  unfold m_X9_isPart at c
  exact iv_min c
def m_X9_isFree (r : (Nat → Int32)) (x1 : Int32) : Int32 := if (m_X9_of r x1 (1 : Int32)) = (m_X9_of r x1 (2 : Int32)) then (1 : Int32) else (0 : Int32)
def m_X9_missing (r : (Nat → Int32)) (x1 : Int32) : Int32 := (((3 : Int32) - ((m_X9_of r x1 (3 : Int32)) &&& (1 : Int32))) - (((m_X9_of r x1 (3 : Int32)) >>> ((1 : Int32) &&& (31 : Int32))) &&& (1 : Int32))) - (((m_X9_of r x1 (3 : Int32)) >>> ((2 : Int32) &&& (31 : Int32))) &&& (1 : Int32))
def m_X9_owedAt (x1 : Int32) (x2 : Int32) (x3 : Int32) (x4 : Int32) : Int32 := ((((93 : Int32) + ((45 : Int32) * x1)) + ((9 : Int32) * x2)) + ((3 : Int32) * x3)) + x4
theorem iv_owedAt {a b c d : Int32} (ha : iv 0 4 a) (hb : iv 0 4 b) (hc : iv 0 2 c) (hd : iv 0 2 d) : iv 93 317 (m_X9_owedAt a b c d) := by
  unfold m_X9_owedAt
  exact iv_wide (iv_add (l := 93) (h := 317) (iv_add (l := 93) (h := 315) (iv_add (l := 93) (h := 309) (iv_add (l := 93) (h := 273) (iv_lit (v := 93) (by decide)) (iv_mul (l := 0) (h := 180) (iv_lit (v := 45) (by decide)) ha (by decide)) (by decide)) (iv_mul (l := 0) (h := 36) (iv_lit (v := 9) (by decide)) hb (by decide)) (by decide)) (iv_mul (l := 0) (h := 6) (iv_lit (v := 3) (by decide)) hc (by decide)) (by decide)) hd (by decide)) (by decide)
def m_X9_coresAt (x1 : Int32) : Int32 := (318 : Int32) + ((13 : Int32) * x1)
theorem iv_coresAt {h : Int32} (hh : iv 0 4 h) : iv 318 370 (m_X9_coresAt h) := by
  unfold m_X9_coresAt
  exact iv_add (l := 318) (h := 370) (iv_lit (v := 318) (by decide)) (iv_mul (l := 0) (h := 52) (iv_lit (v := 13) (by decide)) hh (by decide)) (by decide)
theorem ix_cores {h : Int32} (hh : iv 0 4 h) : (m_X9_coresAt h).toNatClampNeg = 318 + 13 * h.toNatClampNeg := by
  have e13 : (13 : Int32).toInt = 13 := by decide
  have e318 : (318 : Int32).toInt = 318 := by decide
  have := hh.1
  have := hh.2
  have b := iv_int hh
  unfold m_X9_coresAt
  have a1 : ((13 : Int32) * h).toInt = 13 * h.toInt := by rw [i32_mul (by rw [e13]; omega) (by rw [e13]; omega), e13]
  have a2 : ((318 : Int32) + 13 * h).toInt = 318 + 13 * h.toInt := by rw [i32_add (by rw [a1, e318]; omega) (by rw [a1, e318]; omega), a1, e318]
  exact tnc_of (by omega)
theorem rk_cores {r : Nat → Int32} {h : Int32} (hR : rOK r) (hh : iv 0 4 h) : iv 0 6 (r (m_X9_coresAt h).toNatClampNeg) := by
  rw [ix_cores hh]
  exact hR.2.2 _ (iv_tnc (n := 5) hh (by decide))
theorem rok_free88 {r : Nat → Int32} {i v : Int32} (hR : rOK r) (h : iv 88 317 i) : rOK (upd r i.toNatClampNeg v) := by
  have h1 := h.1
  have h2 := h.2
  have b := iv_int (iv_wide (l2 := 0) (h2 := 317) h (by decide))
  exact rok_free hR (by omega)
def m_X9_late (r : (Nat → Int32)) (x1 : Int32) (x2 : Int32) : Int32 := if (((r (0 : Int32).toNatClampNeg) + x2) - x1) ≤ (0 : Int32) then (0 : Int32) else (((r (0 : Int32).toNatClampNeg) + x2) - x1) * (r (2 : Int32).toNatClampNeg)
def m_X9_lateOf (r : (Nat → Int32)) (x1 : Int32) (x2 : Int32) : Int32 := if (m_X9_isFree r x1) = (0 : Int32) then m_X9_late r (m_X9_of r x1 (4 : Int32)) x2 else (0 : Int32)
def m_X9_pays (r : (Nat → Int32)) (x1 : Int32) (x2 : Int32) (x3 : Int32) : (Nat → Int32) := upd (upd r ((88 : Int32) + x1).toNatClampNeg ((r ((88 : Int32) + x1).toNatClampNeg) - x3)) ((88 : Int32) + x2).toNatClampNeg (((upd r ((88 : Int32) + x1).toNatClampNeg ((r ((88 : Int32) + x1).toNatClampNeg) - x3)) ((88 : Int32) + x2).toNatClampNeg) + x3)
def m_X9_whyNotCome (r : (Nat → Int32)) (x1 : Int32) (x2 : Int32) (x3 : Int32) : Int32 := if (m_X9_isKind x1) = (0 : Int32) then (1 : Int32) else if (m_X9_isHolder x2) = (0 : Int32) then (1 : Int32) else if (m_X9_in x3.toInt64 (0 : Int64) (7 : Int64)) = (0 : Int32) then (2 : Int32) else if (r (1 : Int32).toNatClampNeg) = (16 : Int32) then (3 : Int32) else (0 : Int32)
theorem wn_nn_Come (r : Nat → Int32) (x1 x2 x3 : Int32) : 0 ≤ (m_X9_whyNotCome r x1 x2 x3).toInt := by
  unfold m_X9_whyNotCome
  repeat' split
  all_goals decide
theorem wn_Come_n {r : Nat → Int32} {x1 x2 x3 : Int32} (hR : rOK r) (c : m_X9_whyNotCome r x1 x2 x3 = 0) : iv 0 15 (r (1 : Int32).toNatClampNeg) := by
  unfold m_X9_whyNotCome at c
  split at c
  · exact absurd c (by decide)
  split at c
  · exact absurd c (by decide)
  split at c
  · exact absurd c (by decide)
  split at c
  · exact absurd c (by decide)
  rename_i h4
  have h1 := rk_many hR
  have h5 : ¬ (r (1 : Int32).toNatClampNeg).toInt = 16 := fun q => h4 (Int32.toInt_inj.mp (by rw [q]; decide))
  exact ⟨h1.1, by have := h1.2; omega⟩
def m_X9_comeOn (r : (Nat → Int32)) (x1 : Int32) (x2 : Int32) (x3 : Int32) : Int32 × (Nat → Int32) := (r (1 : Int32).toNatClampNeg, upd (m_X9_lay (m_X9_lay (m_X9_lay (m_X9_lay (m_X9_lay r (r (1 : Int32).toNatClampNeg) (0 : Int32) x1) (r (1 : Int32).toNatClampNeg) (1 : Int32) x2) (r (1 : Int32).toNatClampNeg) (2 : Int32) x2) (r (1 : Int32).toNatClampNeg) (3 : Int32) x3) (r (1 : Int32).toNatClampNeg) (4 : Int32) (0 : Int32)) (1 : Int32).toNatClampNeg (((m_X9_lay (m_X9_lay (m_X9_lay (m_X9_lay (m_X9_lay r (r (1 : Int32).toNatClampNeg) (0 : Int32) x1) (r (1 : Int32).toNatClampNeg) (1 : Int32) x2) (r (1 : Int32).toNatClampNeg) (2 : Int32) x2) (r (1 : Int32).toNatClampNeg) (3 : Int32) x3) (r (1 : Int32).toNatClampNeg) (4 : Int32) (0 : Int32)) (1 : Int32).toNatClampNeg) + (1 : Int32)))
def m_X9_whyNotLend (r : (Nat → Int32)) (x1 : Int32) (x2 : Int32) (x3 : Int32) : Int32 := if (m_X9_isUnit r x1) = (0 : Int32) then (1 : Int32) else if (m_X9_isHolder x2) = (0 : Int32) then (1 : Int32) else if (m_X9_in x3.toInt64 (1 : Int64) (30 : Int64)) = (0 : Int32) then (2 : Int32) else if (m_X9_isFree r x1) = (0 : Int32) then (3 : Int32) else if (m_X9_of r x1 (1 : Int32)) = x2 then (3 : Int32) else (0 : Int32)
theorem wn_nn_Lend (r : Nat → Int32) (x1 x2 x3 : Int32) : 0 ≤ (m_X9_whyNotLend r x1 x2 x3).toInt := by
  unfold m_X9_whyNotLend
  repeat' split
  all_goals decide
theorem wn_Lend_0 {r : Nat → Int32} {x1 x2 x3 : Int32} (hR : rOK r) (c : m_X9_whyNotLend r x1 x2 x3 = 0) : iv 0 15 x1 := by
  unfold m_X9_whyNotLend at c
  split at c
  · exact absurd c (by decide)
  rename_i h0
  exact iv_isUnit hR h0
theorem wn_Lend_1 {r : Nat → Int32} {x1 x2 x3 : Int32} (hR : rOK r) (c : m_X9_whyNotLend r x1 x2 x3 = 0) : iv 0 4 x2 := by
  unfold m_X9_whyNotLend at c
  split at c
  · exact absurd c (by decide)
  rename_i h0
  split at c
  · exact absurd c (by decide)
  rename_i h1
  exact iv_isHolder h1
def m_X9_lendOn (r : (Nat → Int32)) (x1 : Int32) (x2 : Int32) (x3 : Int32) : Int32 × (Nat → Int32) := (((m_X9_lay (m_X9_lay r x1 (2 : Int32) x2) x1 (4 : Int32) (((m_X9_lay r x1 (2 : Int32) x2) (0 : Int32).toNatClampNeg) + x3)) (0 : Int32).toNatClampNeg) + x3, m_X9_lay (m_X9_lay r x1 (2 : Int32) x2) x1 (4 : Int32) (((m_X9_lay r x1 (2 : Int32) x2) (0 : Int32).toNatClampNeg) + x3))
def m_X9_whyNotBring (r : (Nat → Int32)) (x1 : Int32) : Int32 := if (m_X9_isUnit r x1) = (0 : Int32) then (1 : Int32) else if (m_X9_isFree r x1) = (0 : Int32) then (0 : Int32) else (2 : Int32)
theorem wn_nn_Bring (r : Nat → Int32) (x1 : Int32) : 0 ≤ (m_X9_whyNotBring r x1).toInt := by
  unfold m_X9_whyNotBring
  repeat' split
  all_goals decide
theorem wn_Bring_0 {r : Nat → Int32} {x1 : Int32} (hR : rOK r) (c : m_X9_whyNotBring r x1 = 0) : iv 0 15 x1 := by
  unfold m_X9_whyNotBring at c
  split at c
  · exact absurd c (by decide)
  rename_i h0
  exact iv_isUnit hR h0
def m_X9_bringOn (r : (Nat → Int32)) (x1 : Int32) : Int32 × (Nat → Int32) := (m_X9_lateOf r x1 (0 : Int32), m_X9_lay (m_X9_pays r (m_X9_of r x1 (2 : Int32)) (m_X9_of r x1 (1 : Int32)) (m_X9_lateOf r x1 (0 : Int32))) x1 (2 : Int32) (m_X9_of (m_X9_pays r (m_X9_of r x1 (2 : Int32)) (m_X9_of r x1 (1 : Int32)) (m_X9_lateOf r x1 (0 : Int32))) x1 (1 : Int32)))
def m_X9_isCore (r : (Nat → Int32)) (x1 : Int32) : Int32 := if (m_X9_of r x1 (1 : Int32)) = (4 : Int32) then (0 : Int32) else if (m_X9_isFree r x1) = (0 : Int32) then (0 : Int32) else (1 : Int32)
def m_X9_isGood (r : (Nat → Int32)) (x1 : Int32) : Int32 := if (m_X9_of r x1 (1 : Int32)) = (4 : Int32) then if (m_X9_isFree r x1) = (0 : Int32) then (0 : Int32) else if (m_X9_of r x1 (3 : Int32)) = (7 : Int32) then (1 : Int32) else (0 : Int32) else (0 : Int32)
def m_X9_whyNotExchange (r : (Nat → Int32)) (x1 : Int32) (x2 : Int32) : Int32 := if (m_X9_isUnit r x1) = (0 : Int32) then (1 : Int32) else if (m_X9_isUnit r x2) = (0 : Int32) then (1 : Int32) else if (m_X9_isCore r x1) = (0 : Int32) then (2 : Int32) else if (m_X9_isGood r x2) = (0 : Int32) then (2 : Int32) else if (m_X9_of r x1 (0 : Int32)) = (m_X9_of r x2 (0 : Int32)) then (0 : Int32) else (2 : Int32)
theorem wn_nn_Exchange (r : Nat → Int32) (x1 x2 : Int32) : 0 ≤ (m_X9_whyNotExchange r x1 x2).toInt := by
  unfold m_X9_whyNotExchange
  repeat' split
  all_goals decide
theorem wn_Exchange_0 {r : Nat → Int32} {x1 x2 : Int32} (hR : rOK r) (c : m_X9_whyNotExchange r x1 x2 = 0) : iv 0 15 x1 := by
  unfold m_X9_whyNotExchange at c
  split at c
  · exact absurd c (by decide)
  rename_i h0
  exact iv_isUnit hR h0
theorem wn_Exchange_1 {r : Nat → Int32} {x1 x2 : Int32} (hR : rOK r) (c : m_X9_whyNotExchange r x1 x2 = 0) : iv 0 15 x2 := by
  unfold m_X9_whyNotExchange at c
  split at c
  · exact absurd c (by decide)
  rename_i h0
  split at c
  · exact absurd c (by decide)
  rename_i h1
  exact iv_isUnit hR h1
def m_X9_priceOf (r : (Nat → Int32)) (x1 : Int32) : Int32 := (r (3 : Int32).toNatClampNeg) + ((r (4 : Int32).toNatClampNeg) * (m_X9_missing r x1))
def m_X9_give (r : (Nat → Int32)) (x1 : Int32) (x2 : Int32) : (Nat → Int32) := m_X9_lay (m_X9_lay r x1 (1 : Int32) x2) x1 (2 : Int32) x2
def m_X9_exchangeOn (r : (Nat → Int32)) (x1 : Int32) (x2 : Int32) : Int32 × (Nat → Int32) := (m_X9_priceOf r x1, upd (m_X9_pays (m_X9_give (m_X9_give r x1 (4 : Int32)) x2 (m_X9_of r x1 (1 : Int32))) (m_X9_of r x1 (1 : Int32)) (4 : Int32) (m_X9_priceOf r x1)) (7 : Int32).toNatClampNeg (((m_X9_pays (m_X9_give (m_X9_give r x1 (4 : Int32)) x2 (m_X9_of r x1 (1 : Int32))) (m_X9_of r x1 (1 : Int32)) (4 : Int32) (m_X9_priceOf r x1)) (7 : Int32).toNatClampNeg) + (1 : Int32)))
