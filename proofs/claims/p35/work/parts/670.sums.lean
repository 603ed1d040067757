/-! p35: what goes together over the five holders -/
theorem kV_ok {v : Int32} {z : SpT} : kV (0, v, z) = v := rfl
theorem kv_h0 {z : SpT} {x v : Int32} (h : ¬ m_X8_isHolder x = 0) : kV (callP z 4 x 0 v) = sA (pN z) x.toNatClampNeg := by
  rw [cp_4]
  unfold m_X8_holder
  rw [if_neg h, if_pos (show (0 : Int32) = 0 from rfl), kV_ok]
theorem kv_h1 {z : SpT} {x v : Int32} (h : ¬ m_X8_isHolder x = 0) : kV (callP z 4 x 1 v) = m_X7_ownedBy (sU (pN z)) x := by
  rw [cp_4]
  unfold m_X8_holder
  rw [if_neg h, if_neg (show ¬ (1 : Int32) = 0 by decide), if_pos (show (1 : Int32) = 1 from rfl), kV_ok]
theorem kv_h2 {z : SpT} {x v : Int32} (h : ¬ m_X8_isHolder x = 0) : kV (callP z 4 x 2 v) = m_X7_placedAt (sU (pN z)) x := by
  rw [cp_4]
  unfold m_X8_holder
  rw [if_neg h, if_neg (show ¬ (2 : Int32) = 0 by decide), if_neg (show ¬ (2 : Int32) = 1 by decide), if_pos (show (2 : Int32) = 2 from rfl), kV_ok]
theorem kv_h3 {z : SpT} {x v : Int32} (h : ¬ m_X8_isHolder x = 0) : kV (callP z 4 x 3 v) = m_X7_borrowedBy (sU (pN z)) x := by
  rw [cp_4]
  unfold m_X8_holder
  rw [if_neg h, if_neg (show ¬ (3 : Int32) = 0 by decide), if_neg (show ¬ (3 : Int32) = 1 by decide), if_neg (show ¬ (3 : Int32) = 2 by decide), if_pos (show (3 : Int32) = 3 from rfl), kV_ok]
theorem kv_h4 {z : SpT} {x v : Int32} (h : ¬ m_X8_isHolder x = 0) : kV (callP z 4 x 4 v) = cC (sC (pN z)) x.toNatClampNeg := by
  rw [cp_4]
  unfold m_X8_holder
  rw [if_neg h, if_neg (show ¬ (4 : Int32) = 0 by decide), if_neg (show ¬ (4 : Int32) = 1 by decide), if_neg (show ¬ (4 : Int32) = 2 by decide), if_neg (show ¬ (4 : Int32) = 3 by decide), if_pos (show (4 : Int32) = 4 from rfl), kV_ok]
theorem kv_h5 {z : SpT} {x v : Int32} (h : ¬ m_X8_isHolder x = 0) : kV (callP z 4 x 5 v) = m_X1_owedBy (sD (pN z)) x := by
  rw [cp_4]
  unfold m_X8_holder
  rw [if_neg h, if_neg (show ¬ (5 : Int32) = 0 by decide), if_neg (show ¬ (5 : Int32) = 1 by decide), if_neg (show ¬ (5 : Int32) = 2 by decide), if_neg (show ¬ (5 : Int32) = 3 by decide), if_neg (show ¬ (5 : Int32) = 4 by decide), if_pos (show (5 : Int32) = 5 from rfl), kV_ok]
theorem kv_h6 {z : SpT} {x v : Int32} (h : ¬ m_X8_isHolder x = 0) : kV (callP z 4 x 6 v) = m_X1_owedTo (sD (pN z)) x := by
  rw [cp_4]
  unfold m_X8_holder
  rw [if_neg h, if_neg (show ¬ (6 : Int32) = 0 by decide), if_neg (show ¬ (6 : Int32) = 1 by decide), if_neg (show ¬ (6 : Int32) = 2 by decide), if_neg (show ¬ (6 : Int32) = 3 by decide), if_neg (show ¬ (6 : Int32) = 4 by decide), if_neg (show ¬ (6 : Int32) = 5 by decide), if_pos (show (6 : Int32) = 6 from rfl), kV_ok]
theorem kv_bill {z : SpT} {x d v : Int32} (h : ¬ m_X8_isHolder x = 0) (hd : iv 0 99 d) : kV (callP z 20 x d v) = m_X5_feesToPay (pN z) x d := by
  rw [cp_20]
  unfold m_X8_bill
  have h1 := hd.1
  have h2 := hd.2
  rw [if_neg h, if_neg (by rw [i32_lt, i32_0]; omega), if_pos (by rw [i32_le, ii99]; omega), kV_ok]
theorem hol_5 {x : Int32} (h : iv 0 4 x) : x = 0 ∨ x = 1 ∨ x = 2 ∨ x = 3 ∨ x = 4 := by
  have k : ∀ n : Nat, n < 5 → Int32.ofNat n = 0 ∨ Int32.ofNat n = 1 ∨ Int32.ofNat n = 2 ∨ Int32.ofNat n = 3 ∨ Int32.ofNat n = 4 := by decide +kernel
  have e : x = Int32.ofNat x.toInt.toNat := i32_eq (by rw [Int32.toInt_ofNat_of_lt (by have := h.2; omega)]; have := h.1; omega)
  rw [e]
  exact k _ (by have := h.2; omega)
theorem i32_z (x : Int32) : x + 0 = x := by grind
theorem ne_0_1 : ((0 : Int32) = 1) = False := eq_false (by decide)
theorem ne_0_2 : ((0 : Int32) = 2) = False := eq_false (by decide)
theorem ne_0_3 : ((0 : Int32) = 3) = False := eq_false (by decide)
theorem ne_0_4 : ((0 : Int32) = 4) = False := eq_false (by decide)
theorem ne_1_0 : ((1 : Int32) = 0) = False := eq_false (by decide)
theorem ne_1_2 : ((1 : Int32) = 2) = False := eq_false (by decide)
theorem ne_1_3 : ((1 : Int32) = 3) = False := eq_false (by decide)
theorem ne_1_4 : ((1 : Int32) = 4) = False := eq_false (by decide)
theorem ne_2_0 : ((2 : Int32) = 0) = False := eq_false (by decide)
theorem ne_2_1 : ((2 : Int32) = 1) = False := eq_false (by decide)
theorem ne_2_3 : ((2 : Int32) = 3) = False := eq_false (by decide)
theorem ne_2_4 : ((2 : Int32) = 4) = False := eq_false (by decide)
theorem ne_3_0 : ((3 : Int32) = 0) = False := eq_false (by decide)
theorem ne_3_1 : ((3 : Int32) = 1) = False := eq_false (by decide)
theorem ne_3_2 : ((3 : Int32) = 2) = False := eq_false (by decide)
theorem ne_3_4 : ((3 : Int32) = 4) = False := eq_false (by decide)
theorem ne_4_0 : ((4 : Int32) = 0) = False := eq_false (by decide)
theorem ne_4_1 : ((4 : Int32) = 1) = False := eq_false (by decide)
theorem ne_4_2 : ((4 : Int32) = 2) = False := eq_false (by decide)
theorem ne_4_3 : ((4 : Int32) = 3) = False := eq_false (by decide)
section SUMS
variable {un : UnT}
theorem own_L (hu : uOK un) (hv : ∀ u : Nat, u < 16 → iv 0 4 (uO un u)) : ∀ (nF : Nat) (n0 n1 n2 n3 n4 u : Int32), 0 ≤ u.toInt → u.toInt ≤ (uN un).toInt → ((uN un).toInt - u.toInt).toNat < nF → n0 + n1 + n2 + n3 + n4 = u → m_X7_ownedBy_L4 nF un 0 n0 u + m_X7_ownedBy_L4 nF un 1 n1 u + m_X7_ownedBy_L4 nF un 2 n2 u + m_X7_ownedBy_L4 nF un 3 n3 u + m_X7_ownedBy_L4 nF un 4 n4 u = uN un := by
  intro nF
  induction nF with
  | zero => intro n0 n1 n2 n3 n4 u h0 h1 h2; omega
  | succ nF ih =>
    intro n0 n1 n2 n3 n4 u h0 h1 h2 e
    have b := hu.2
    rw [m_X7_ownedBy_L4, m_X7_ownedBy_L4, m_X7_ownedBy_L4, m_X7_ownedBy_L4, m_X7_ownedBy_L4]
    by_cases c : uN un ≤ u
    · rw [if_pos c, if_pos c, if_pos c, if_pos c, if_pos c, e]
      rw [i32_le] at c
      exact i32_eq (by omega)
    · rw [if_neg c, if_neg c, if_neg c, if_neg c, if_neg c]
      rw [i32_le] at c
      have s1 : (u + 1).toInt = u.toInt + 1 := by rw [i32_add (by rw [i32_1]; omega) (by rw [i32_1]; omega), i32_1]
      have lt : u.toNatClampNeg < 16 := by rw [tnc_d]; omega
      rcases hol_5 (hv _ lt) with k | k | k | k | k <;> rw [k] <;> simp only [ne_0_1, ne_0_2, ne_0_3, ne_0_4, ne_1_0, ne_1_2, ne_1_3, ne_1_4, ne_2_0, ne_2_1, ne_2_3, ne_2_4, ne_3_0, ne_3_1, ne_3_2, ne_3_4, ne_4_0, ne_4_1, ne_4_2, ne_4_3, if_true, if_false] <;> exact ih _ _ _ _ _ _ (by omega) (by omega) (by omega) (by rw [← e]; grind)
theorem plc_L (hu : uOK un) (hv : ∀ u : Nat, u < 16 → iv 0 4 (uP un u)) : ∀ (nF : Nat) (n0 n1 n2 n3 n4 u : Int32), 0 ≤ u.toInt → u.toInt ≤ (uN un).toInt → ((uN un).toInt - u.toInt).toNat < nF → n0 + n1 + n2 + n3 + n4 = u → m_X7_placedAt_L4 nF un 0 n0 u + m_X7_placedAt_L4 nF un 1 n1 u + m_X7_placedAt_L4 nF un 2 n2 u + m_X7_placedAt_L4 nF un 3 n3 u + m_X7_placedAt_L4 nF un 4 n4 u = uN un := by
  intro nF
  induction nF with
  | zero => intro n0 n1 n2 n3 n4 u h0 h1 h2; omega
  | succ nF ih =>
    intro n0 n1 n2 n3 n4 u h0 h1 h2 e
    have b := hu.2
    rw [m_X7_placedAt_L4, m_X7_placedAt_L4, m_X7_placedAt_L4, m_X7_placedAt_L4, m_X7_placedAt_L4]
    by_cases c : uN un ≤ u
    · rw [if_pos c, if_pos c, if_pos c, if_pos c, if_pos c, e]
      rw [i32_le] at c
      exact i32_eq (by omega)
    · rw [if_neg c, if_neg c, if_neg c, if_neg c, if_neg c]
      rw [i32_le] at c
      have s1 : (u + 1).toInt = u.toInt + 1 := by rw [i32_add (by rw [i32_1]; omega) (by rw [i32_1]; omega), i32_1]
      have lt : u.toNatClampNeg < 16 := by rw [tnc_d]; omega
      rcases hol_5 (hv _ lt) with k | k | k | k | k <;> rw [k] <;> simp only [ne_0_1, ne_0_2, ne_0_3, ne_0_4, ne_1_0, ne_1_2, ne_1_3, ne_1_4, ne_2_0, ne_2_1, ne_2_3, ne_2_4, ne_3_0, ne_3_1, ne_3_2, ne_3_4, ne_4_0, ne_4_1, ne_4_2, ne_4_3, if_true, if_false] <;> exact ih _ _ _ _ _ _ (by omega) (by omega) (by omega) (by rw [← e]; grind)
theorem bor_L (hu : uOK un) (hv : ∀ u : Nat, u < 16 → iv 0 4 (uP un u)) : ∀ (nF : Nat) (n0 n1 n2 n3 n4 m u : Int32), 0 ≤ u.toInt → ((uN un).toInt - u.toInt).toNat < nF → n0 + n1 + n2 + n3 + n4 = m → m_X7_borrowedBy_L4 nF un 0 n0 u + m_X7_borrowedBy_L4 nF un 1 n1 u + m_X7_borrowedBy_L4 nF un 2 n2 u + m_X7_borrowedBy_L4 nF un 3 n3 u + m_X7_borrowedBy_L4 nF un 4 n4 u = m_X7_onLoan_L4 nF un m u := by
  intro nF
  induction nF with
  | zero => intro n0 n1 n2 n3 n4 m u h0 h2; omega
  | succ nF ih =>
    intro n0 n1 n2 n3 n4 m u h0 h2 e
    have b := hu.2
    rw [m_X7_borrowedBy_L4, m_X7_borrowedBy_L4, m_X7_borrowedBy_L4, m_X7_borrowedBy_L4, m_X7_borrowedBy_L4, m_X7_onLoan_L4]
    by_cases c : uN un ≤ u
    · rw [if_pos c, if_pos c, if_pos c, if_pos c, if_pos c, if_pos c, e]
    · rw [if_neg c, if_neg c, if_neg c, if_neg c, if_neg c, if_neg c]
      have hh : ¬ m_X7_has un u = 0 := is_has (by rw [i32_le] at c; omega)
      rw [i32_le] at c
      have s1 : (u + 1).toInt = u.toInt + 1 := by rw [i32_add (by rw [i32_1]; omega) (by rw [i32_1]; omega), i32_1]
      have lt : u.toNatClampNeg < 16 := by rw [tnc_d]; omega
      have fr : m_X7_isFree un u = if uP un u.toNatClampNeg = uO un u.toNatClampNeg then 1 else 0 := by
        unfold m_X7_isFree
        rw [if_neg hh]
      rw [fr]
      by_cases d : uP un u.toNatClampNeg = uO un u.toNatClampNeg
      · rw [if_pos d, if_neg (show ¬ (1 : Int32) = 0 by decide), ← d]
        rcases hol_5 (hv _ lt) with k | k | k | k | k <;> rw [k] <;> simp only [ne_0_1, ne_0_2, ne_0_3, ne_0_4, ne_1_0, ne_1_2, ne_1_3, ne_1_4, ne_2_0, ne_2_1, ne_2_3, ne_2_4, ne_3_0, ne_3_1, ne_3_2, ne_3_4, ne_4_0, ne_4_1, ne_4_2, ne_4_3, if_true, if_false] <;> exact ih _ _ _ _ _ _ _ (by omega) (by omega) (by rw [← e]; grind)
      · rw [if_neg d, if_pos (show (0 : Int32) = 0 from rfl)]
        have d2 : ¬ uO un u.toNatClampNeg = uP un u.toNatClampNeg := fun q => d q.symm
        rcases hol_5 (hv _ lt) with k | k | k | k | k <;> rw [k] at d2 ⊢ <;> simp only [ne_0_1, ne_0_2, ne_0_3, ne_0_4, ne_1_0, ne_1_2, ne_1_3, ne_1_4, ne_2_0, ne_2_1, ne_2_3, ne_2_4, ne_3_0, ne_3_1, ne_3_2, ne_3_4, ne_4_0, ne_4_1, ne_4_2, ne_4_3, if_true, if_false, if_neg d2] <;> exact ih _ _ _ _ _ _ _ (by omega) (by omega) (by rw [← e]; grind)
end SUMS
section FEES
variable {st : StT}
theorem fee_L (hu : uOK (sU st)) (hv : ∀ u : Nat, u < 16 → iv 0 4 (uO (sU st) u) ∧ iv 0 4 (uP (sU st) u)) (x2 : Int32) : ∀ (nF : Nat) (n0 n1 n2 n3 n4 u : Int32), 0 ≤ u.toInt → ((uN (sU st)).toInt - u.toInt).toNat < nF → n0 + n1 + n2 + n3 + n4 = 0 → m_X5_feesToPay_L5 nF st 0 x2 n0 u + m_X5_feesToPay_L5 nF st 1 x2 n1 u + m_X5_feesToPay_L5 nF st 2 x2 n2 u + m_X5_feesToPay_L5 nF st 3 x2 n3 u + m_X5_feesToPay_L5 nF st 4 x2 n4 u = 0 := by
  intro nF
  induction nF with
  | zero => intro n0 n1 n2 n3 n4 u h0 h2; omega
  | succ nF ih =>
    intro n0 n1 n2 n3 n4 u h0 h2 e
    have b := hu.2
    rw [m_X5_feesToPay_L5, m_X5_feesToPay_L5, m_X5_feesToPay_L5, m_X5_feesToPay_L5, m_X5_feesToPay_L5]
    by_cases c : uN (sU st) ≤ u
    · rw [if_pos c, if_pos c, if_pos c, if_pos c, if_pos c, e]
    · rw [if_neg c, if_neg c, if_neg c, if_neg c, if_neg c]
      rw [i32_le] at c
      have s1 : (u + 1).toInt = u.toInt + 1 := by rw [i32_add (by rw [i32_1]; omega) (by rw [i32_1]; omega), i32_1]
      have lt : u.toNatClampNeg < 16 := by rw [tnc_d]; omega
      generalize m_X5_feesFor st u x2 = f9
      rcases hol_5 (hv _ lt).2 with k | k | k | k | k <;> rcases hol_5 (hv _ lt).1 with j | j | j | j | j <;> rw [k, j] <;> simp only [ne_0_1, ne_0_2, ne_0_3, ne_0_4, ne_1_0, ne_1_2, ne_1_3, ne_1_4, ne_2_0, ne_2_1, ne_2_3, ne_2_4, ne_3_0, ne_3_1, ne_3_2, ne_3_4, ne_4_0, ne_4_1, ne_4_2, ne_4_3, if_true, if_false] <;> exact ih _ _ _ _ _ _ (by omega) (by omega) (by rw [← e]; grind)
end FEES
