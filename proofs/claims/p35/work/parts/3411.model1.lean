def m_X9_whyNotAdvance (r : (Nat → Int32)) (x1 : Int32) (x2 : Int32) (x3 : Int32) : Int32 := if (m_X9_isHolder x1) = (0 : Int32) then (1 : Int32) else if (m_X9_isUnit r x2) = (0 : Int32) then (1 : Int32) else if (m_X9_in x3.toInt64 (1 : Int64) (30 : Int64)) = (0 : Int32) then (2 : Int32) else if x1 = (4 : Int32) then (3 : Int32) else if (r (m_X9_coresAt x1).toNatClampNeg) = (6 : Int32) then (3 : Int32) else if (m_X9_isGood r x2) = (0 : Int32) then (3 : Int32) else (0 : Int32)
theorem wn_nn_Advance (r : Nat → Int32) (x1 x2 x3 : Int32) : 0 ≤ (m_X9_whyNotAdvance r x1 x2 x3).toInt := by
  unfold m_X9_whyNotAdvance
  repeat' split
  all_goals decide
theorem wn_Advance_0 {r : Nat → Int32} {x1 x2 x3 : Int32} (hR : rOK r) (c : m_X9_whyNotAdvance r x1 x2 x3 = 0) : iv 0 4 x1 := by
  unfold m_X9_whyNotAdvance at c
  split at c
  · exact absurd c (by decide)
  rename_i h0
  exact iv_isHolder h0
theorem wn_Advance_1 {r : Nat → Int32} {x1 x2 x3 : Int32} (hR : rOK r) (c : m_X9_whyNotAdvance r x1 x2 x3 = 0) : iv 0 15 x2 := by
  unfold m_X9_whyNotAdvance at c
  split at c
  · exact absurd c (by decide)
  rename_i h0
  split at c
  · exact absurd c (by decide)
  rename_i h1
  exact iv_isUnit hR h1
theorem wn_Adv_n {r : Nat → Int32} {x1 x2 x3 : Int32} (hR : rOK r) (c : m_X9_whyNotAdvance r x1 x2 x3 = 0) : iv 0 5 (r (m_X9_coresAt x1).toNatClampNeg) := by
  have hh := wn_Advance_0 hR c
  unfold m_X9_whyNotAdvance at c
  split at c
  · exact absurd c (by decide)
  split at c
  · exact absurd c (by decide)
  split at c
  · exact absurd c (by decide)
  split at c
  · exact absurd c (by decide)
  split at c
  · exact absurd c (by decide)
  rename_i h4
  have h1 := rk_cores hR hh
  have h5 : ¬ (r (m_X9_coresAt x1).toNatClampNeg).toInt = 6 := fun q => h4 (Int32.toInt_inj.mp (by rw [q]; decide))
  exact ⟨h1.1, by have := h1.2; omega⟩
def m_X9_oldest_L8 : Nat → (Nat → Int32) → Int32 → Int32 → Int32 → Int32
  | 0, _, _, _, _ => (-1 : Int32)
  | nF + 1, r, x1, x2, n => if (r (m_X9_coresAt x1).toNatClampNeg) ≤ n then (-1 : Int32) else if (r (((m_X9_coresAt x1) + (1 : Int32)) + ((2 : Int32) * n)).toNatClampNeg) = x2 then n else m_X9_oldest_L8 nF r x1 x2 (n + (1 : Int32))
def m_X9_oldest (r : (Nat → Int32)) (x1 : Int32) (x2 : Int32) : Int32 := m_X9_oldest_L8 100 r x1 x2 (0 : Int32)
theorem ol_spec {r : Nat → Int32} {x1 x2 : Int32} (hB : (r (m_X9_coresAt x1).toNatClampNeg).toInt ≤ 6) : ∀ (nF : Nat) (n : Int32), 0 ≤ n.toInt → m_X9_oldest_L8 nF r x1 x2 n = -1 ∨ (0 ≤ (m_X9_oldest_L8 nF r x1 x2 n).toInt ∧ (m_X9_oldest_L8 nF r x1 x2 n).toInt < (r (m_X9_coresAt x1).toNatClampNeg).toInt) := by
  intro nF
  induction nF with
  | zero => intro n _; exact Or.inl rfl
  | succ nF ih =>
    intro n h0
    rw [m_X9_oldest_L8]
    split
    · exact Or.inl rfl
    · rename_i h1
      split
      · rw [i32_le] at h1; exact Or.inr ⟨h0, by omega⟩
      · exact ih _ (lp_up h0 h1)
theorem oldest_lt {r : Nat → Int32} {x1 x2 : Int32} (hR : rOK r) (hh : iv 0 4 x1) (ho : ¬ m_X9_oldest r x1 x2 = -1) : 0 ≤ (m_X9_oldest r x1 x2).toInt ∧ (m_X9_oldest r x1 x2).toInt < (r (m_X9_coresAt x1).toNatClampNeg).toInt := by
  have h := ol_spec (x2 := x2) (rk_cores hR hh).2 100 0 (by decide)
  unfold m_X9_oldest at ho ⊢
  exact h.resolve_left ho
theorem oldest_rng {r : Nat → Int32} {x1 x2 : Int32} (hR : rOK r) (hh : iv 0 4 x1) (ho : ¬ m_X9_oldest r x1 x2 = -1) : iv 0 5 (m_X9_oldest r x1 x2) := by
  have h := oldest_lt hR hh ho
  have := (rk_cores hR hh).2
  exact ⟨h.1, by omega⟩
theorem oldest_cnt {r : Nat → Int32} {x1 x2 : Int32} (hR : rOK r) (hh : iv 0 4 x1) (ho : ¬ m_X9_oldest r x1 x2 = -1) : iv 1 6 (r (m_X9_coresAt x1).toNatClampNeg) := by
  have h := oldest_lt hR hh ho
  have := (rk_cores hR hh).2
  exact ⟨by omega, this⟩
theorem dl_hj {K x : Int32} (hK : iv 318 370 K) (hx : iv 0 5 x) : K.toInt + 1 ≤ (K + 1 + 2 * x).toInt := by
  have a1 := hK.1
  have a2 := hK.2
  have b1 := hx.1
  have b2 := hx.2
  have e2 : (2 : Int32).toInt = 2 := by decide
  have c1 : (K + 1).toInt = K.toInt + 1 := by rw [i32_add (by rw [i32_1]; omega) (by rw [i32_1]; omega), i32_1]
  have c2 : ((2 : Int32) * x).toInt = 2 * x.toInt := by rw [i32_mul (by rw [e2]; omega) (by rw [e2]; omega), e2]
  rw [i32_add (by rw [c1, c2]; omega) (by rw [c1, c2]; omega), c1, c2]
  omega
theorem dl_top {K x : Int32} (hK : iv 318 370 K) (hx : iv 0 5 x) : (K + 1 + 2 * x).toInt ≤ 381 :=
  (iv_add (l := 319) (h := 381) (iv_add (l := 319) (h := 371) hK (iv_lit (v := 1) (by decide)) (by decide)) (iv_mul (l := 0) (h := 10) (iv_lit (v := 2) (by decide)) hx (by decide)) (by decide)).2
theorem dl_i {K x i : Int32} (hK : iv 318 370 K) (hx : iv 0 5 x) (hi : K.toInt + 1 ≤ i.toInt) (c : ¬ K + 1 + 2 * x ≤ i) : iv 319 380 i := by
  have h := dl_top hK hx
  have := hK.1
  rw [i32_le] at c
  exact ⟨by omega, by omega⟩
theorem dl_ne {f : Nat → Int32} {K j v : Int32} (h : iv 0 5 (f K.toNatClampNeg)) (hK : iv 318 370 K) (hj : K.toInt + 1 ≤ j.toInt) : iv 0 5 (upd f j.toNatClampNeg v K.toNatClampNeg) := by
  have := hK.1
  have e1 : K.toNatClampNeg = K.toInt.toNat := rfl
  have e2 : j.toNatClampNeg = j.toInt.toNat := rfl
  rw [pk_un (by omega)]
  exact h
theorem dl_m {K i : Int32} (hK : iv 318 370 K) (hi : K.toInt + 1 ≤ i.toInt) : ((383 : Int32).toInt - i.toInt).toNat < 1000 := by
  have : (383 : Int32).toInt = 383 := by decide
  have := hK.1
  omega
theorem dl_up {K i : Int32} (h : iv 319 380 i) (hi : K.toInt + 1 ≤ i.toInt) : K.toInt + 1 ≤ (i + 1).toInt := by
  have := h.1
  have := h.2
  rw [i32_add (by rw [i32_1]; omega) (by rw [i32_1]; omega), i32_1]
  omega
theorem dl_dec {i : Int32} {n : Nat} (h : iv 319 380 i) (hm : ((383 : Int32).toInt - i.toInt).toNat < n + 1) : ((383 : Int32).toInt - (i + 1).toInt).toNat < n := by
  have : (383 : Int32).toInt = 383 := by decide
  have := h.1
  have := h.2
  rw [i32_add (by rw [i32_1]; omega) (by rw [i32_1]; omega), i32_1]
  omega
def m_X9_whyNotDeliver (r : (Nat → Int32)) (x1 : Int32) : Int32 := if (m_X9_isUnit r x1) = (0 : Int32) then (1 : Int32) else if (m_X9_isCore r x1) = (0 : Int32) then (2 : Int32) else if (m_X9_oldest r (m_X9_of r x1 (1 : Int32)) (m_X9_of r x1 (0 : Int32))) = (-1 : Int32) then (2 : Int32) else (0 : Int32)
theorem wn_nn_Deliver (r : Nat → Int32) (x1 : Int32) : 0 ≤ (m_X9_whyNotDeliver r x1).toInt := by
  unfold m_X9_whyNotDeliver
  repeat' split
  all_goals decide
theorem wn_Deliver_0 {r : Nat → Int32} {x1 : Int32} (hR : rOK r) (c : m_X9_whyNotDeliver r x1 = 0) : iv 0 15 x1 := by
  unfold m_X9_whyNotDeliver at c
  split at c
  · exact absurd c (by decide)
  rename_i h0
  exact iv_isUnit hR h0
theorem iv_or7 {a p : Int32} (ha : iv 0 7 a) (hp : iv 0 2 p) : iv 0 7 (a ||| 1 <<< (p &&& 31)) := by
  obtain ⟨i, hi, rfl⟩ := nI_of2 (n := 7) (M := 7) (by decide) (x := a) (by rw [i32_lt, i32_0]; have := ha.1; omega) (by rw [i32_le]; have := ha.2; have : (7 : Int32).toInt = 7 := (by decide); omega)
  obtain ⟨j, hj, rfl⟩ := nI_of2 (n := 2) (M := 2) (by decide) (x := p) (by rw [i32_lt, i32_0]; have := hp.1; omega) (by rw [i32_le]; have := hp.2; have : (2 : Int32).toInt = 2 := (by decide); omega)
  have key : ∀ i : Nat, i ≤ 7 → ∀ j : Nat, j ≤ 2 → 0 ≤ (nI i ||| 1 <<< (nI j &&& 31)).toInt ∧ (nI i ||| 1 <<< (nI j &&& 31)).toInt ≤ 7 := by decide +kernel
  exact key i hi j hj
theorem iv_xor7 {a p : Int32} (ha : iv 0 7 a) (hp : iv 0 2 p) : iv 0 7 (a ^^^ 1 <<< (p &&& 31)) := by
  obtain ⟨i, hi, rfl⟩ := nI_of2 (n := 7) (M := 7) (by decide) (x := a) (by rw [i32_lt, i32_0]; have := ha.1; omega) (by rw [i32_le]; have := ha.2; have : (7 : Int32).toInt = 7 := (by decide); omega)
  obtain ⟨j, hj, rfl⟩ := nI_of2 (n := 2) (M := 2) (by decide) (x := p) (by rw [i32_lt, i32_0]; have := hp.1; omega) (by rw [i32_le]; have := hp.2; have : (2 : Int32).toInt = 2 := (by decide); omega)
  have key : ∀ i : Nat, i ≤ 7 → ∀ j : Nat, j ≤ 2 → 0 ≤ (nI i ^^^ 1 <<< (nI j &&& 31)).toInt ∧ (nI i ^^^ 1 <<< (nI j &&& 31)).toInt ≤ 7 := by decide +kernel
  exact key i hi j hj
theorem wn_Del_o {r : Nat → Int32} {x1 : Int32} (c : m_X9_whyNotDeliver r x1 = 0) : ¬ m_X9_oldest r (m_X9_of r x1 1) (m_X9_of r x1 0) = -1 := by
  unfold m_X9_whyNotDeliver at c
  split at c
  · exact absurd c (by decide)
  split at c
  · exact absurd c (by decide)
  split at c
  · exact absurd c (by decide)
  rename_i h
  exact h
def m_X9_whyNotTake (r : (Nat → Int32)) (x1 : Int32) (x2 : Int32) (x3 : Int32) : Int32 := if (m_X9_isUnit r x1) = (0 : Int32) then (1 : Int32) else if (m_X9_isUnit r x2) = (0 : Int32) then (1 : Int32) else if (m_X9_isPart x3) = (0 : Int32) then (1 : Int32) else if (m_X9_of r x1 (0 : Int32)) = (m_X9_of r x2 (0 : Int32)) then if (m_X9_of r x1 (2 : Int32)) = (m_X9_of r x2 (2 : Int32)) then if (((m_X9_of r x1 (3 : Int32)) >>> (x3 &&& (31 : Int32))) &&& (1 : Int32)) = (1 : Int32) then if (((m_X9_of r x2 (3 : Int32)) >>> (x3 &&& (31 : Int32))) &&& (1 : Int32)) = (0 : Int32) then (0 : Int32) else (2 : Int32) else (2 : Int32) else (2 : Int32) else (2 : Int32)
theorem wn_nn_Take (r : Nat → Int32) (x1 x2 x3 : Int32) : 0 ≤ (m_X9_whyNotTake r x1 x2 x3).toInt := by
  unfold m_X9_whyNotTake
  repeat' split
  all_goals decide
theorem wn_Take_0 {r : Nat → Int32} {x1 x2 x3 : Int32} (hR : rOK r) (c : m_X9_whyNotTake r x1 x2 x3 = 0) : iv 0 15 x1 := by
  unfold m_X9_whyNotTake at c
  split at c
  · exact absurd c (by decide)
  rename_i h0
  exact iv_isUnit hR h0
theorem wn_Take_1 {r : Nat → Int32} {x1 x2 x3 : Int32} (hR : rOK r) (c : m_X9_whyNotTake r x1 x2 x3 = 0) : iv 0 15 x2 := by
  unfold m_X9_whyNotTake at c
  split at c
  · exact absurd c (by decide)
  rename_i h0
  split at c
  · exact absurd c (by decide)
  rename_i h1
  exact iv_isUnit hR h1
theorem wn_Take_2 {r : Nat → Int32} {x1 x2 x3 : Int32} (hR : rOK r) (c : m_X9_whyNotTake r x1 x2 x3 = 0) : iv 0 2 x3 := by
  unfold m_X9_whyNotTake at c
  split at c
  · exact absurd c (by decide)
  rename_i h0
  split at c
  · exact absurd c (by decide)
  rename_i h1
  split at c
  · exact absurd c (by decide)
  rename_i h2
  exact iv_isPart h2
