/-! p35: the totals that the law compares -/
theorem tot_own {un : UnT} (hu : uOK un) (hv : ∀ u : Nat, u < 16 → iv 0 4 (uO un u)) : m_X7_ownedBy un 0 + m_X7_ownedBy un 1 + m_X7_ownedBy un 2 + m_X7_ownedBy un 3 + m_X7_ownedBy un 4 = uN un := by
  unfold m_X7_ownedBy
  exact own_L hu hv 100 0 0 0 0 0 0 (by decide) (by rw [i32_0]; exact hu.1) (fuel100 hu) (by decide)
theorem tot_plc {un : UnT} (hu : uOK un) (hv : ∀ u : Nat, u < 16 → iv 0 4 (uP un u)) : m_X7_placedAt un 0 + m_X7_placedAt un 1 + m_X7_placedAt un 2 + m_X7_placedAt un 3 + m_X7_placedAt un 4 = uN un := by
  unfold m_X7_placedAt
  exact plc_L hu hv 100 0 0 0 0 0 0 (by decide) (by rw [i32_0]; exact hu.1) (fuel100 hu) (by decide)
theorem tot_bor {un : UnT} (hu : uOK un) (hv : ∀ u : Nat, u < 16 → iv 0 4 (uP un u)) : m_X7_borrowedBy un 0 + m_X7_borrowedBy un 1 + m_X7_borrowedBy un 2 + m_X7_borrowedBy un 3 + m_X7_borrowedBy un 4 = m_X7_onLoan un := by
  unfold m_X7_borrowedBy m_X7_onLoan
  exact bor_L hu hv 100 0 0 0 0 0 0 0 (by decide) (fuel100 hu) (by decide)
theorem tot_fee {st : StT} (hu : uOK (sU st)) (hv : ∀ u : Nat, u < 16 → iv 0 4 (uO (sU st) u) ∧ iv 0 4 (uP (sU st) u)) (d : Int32) : m_X5_feesToPay st 0 d + m_X5_feesToPay st 1 d + m_X5_feesToPay st 2 d + m_X5_feesToPay st 3 d + m_X5_feesToPay st 4 d = 0 := by
  unfold m_X5_feesToPay
  exact fee_L hu hv d 100 0 0 0 0 0 0 (by decide) (fuel100 hu) (by decide)
section UN
variable (de : Nat → Int32) (co : CoT) (x n : Int32) (k : Nat)
theorem all_u : m_X1_all_L4 (k + 6) de n 0 = n + m_X1_owedBy de 0 + m_X1_owedBy de 1 + m_X1_owedBy de 2 + m_X1_owedBy de 3 + m_X1_owedBy de 4 := by
  rw [m_X1_all_L4, if_neg (show ¬ (5 : Int32) ≤ (0 : Int32) by decide), show ((0 : Int32) + 1 : Int32) = 1 from by decide]
  rw [m_X1_all_L4, if_neg (show ¬ (5 : Int32) ≤ (1 : Int32) by decide), show ((1 : Int32) + 1 : Int32) = 2 from by decide]
  rw [m_X1_all_L4, if_neg (show ¬ (5 : Int32) ≤ (2 : Int32) by decide), show ((2 : Int32) + 1 : Int32) = 3 from by decide]
  rw [m_X1_all_L4, if_neg (show ¬ (5 : Int32) ≤ (3 : Int32) by decide), show ((3 : Int32) + 1 : Int32) = 4 from by decide]
  rw [m_X1_all_L4, if_neg (show ¬ (5 : Int32) ≤ (4 : Int32) by decide), show ((4 : Int32) + 1 : Int32) = 5 from by decide]
  rw [m_X1_all_L4, if_pos (show (5 : Int32) ≤ 5 by decide)]
theorem oby_u : m_X1_owedBy_L4 (k + 6) de x n 0 = n + m_X1_ofAllSorts de x 0 + m_X1_ofAllSorts de x 1 + m_X1_ofAllSorts de x 2 + m_X1_ofAllSorts de x 3 + m_X1_ofAllSorts de x 4 := by
  rw [m_X1_owedBy_L4, if_neg (show ¬ (5 : Int32) ≤ (0 : Int32) by decide), show ((0 : Int32) + 1 : Int32) = 1 from by decide]
  rw [m_X1_owedBy_L4, if_neg (show ¬ (5 : Int32) ≤ (1 : Int32) by decide), show ((1 : Int32) + 1 : Int32) = 2 from by decide]
  rw [m_X1_owedBy_L4, if_neg (show ¬ (5 : Int32) ≤ (2 : Int32) by decide), show ((2 : Int32) + 1 : Int32) = 3 from by decide]
  rw [m_X1_owedBy_L4, if_neg (show ¬ (5 : Int32) ≤ (3 : Int32) by decide), show ((3 : Int32) + 1 : Int32) = 4 from by decide]
  rw [m_X1_owedBy_L4, if_neg (show ¬ (5 : Int32) ≤ (4 : Int32) by decide), show ((4 : Int32) + 1 : Int32) = 5 from by decide]
  rw [m_X1_owedBy_L4, if_pos (show (5 : Int32) ≤ 5 by decide)]
theorem oto_u : m_X1_owedTo_L4 (k + 6) de x n 0 = n + m_X1_ofAllSorts de 0 x + m_X1_ofAllSorts de 1 x + m_X1_ofAllSorts de 2 x + m_X1_ofAllSorts de 3 x + m_X1_ofAllSorts de 4 x := by
  rw [m_X1_owedTo_L4, if_neg (show ¬ (5 : Int32) ≤ (0 : Int32) by decide), show ((0 : Int32) + 1 : Int32) = 1 from by decide]
  rw [m_X1_owedTo_L4, if_neg (show ¬ (5 : Int32) ≤ (1 : Int32) by decide), show ((1 : Int32) + 1 : Int32) = 2 from by decide]
  rw [m_X1_owedTo_L4, if_neg (show ¬ (5 : Int32) ≤ (2 : Int32) by decide), show ((2 : Int32) + 1 : Int32) = 3 from by decide]
  rw [m_X1_owedTo_L4, if_neg (show ¬ (5 : Int32) ≤ (3 : Int32) by decide), show ((3 : Int32) + 1 : Int32) = 4 from by decide]
  rw [m_X1_owedTo_L4, if_neg (show ¬ (5 : Int32) ≤ (4 : Int32) by decide), show ((4 : Int32) + 1 : Int32) = 5 from by decide]
  rw [m_X1_owedTo_L4, if_pos (show (5 : Int32) ≤ 5 by decide)]
theorem cal_u : m_X0_all_L4 (k + 6) co n 0 = n + cC co (0 : Int32).toNatClampNeg + cC co (1 : Int32).toNatClampNeg + cC co (2 : Int32).toNatClampNeg + cC co (3 : Int32).toNatClampNeg + cC co (4 : Int32).toNatClampNeg := by
  rw [m_X0_all_L4, if_neg (show ¬ (5 : Int32) ≤ (0 : Int32) by decide), show ((0 : Int32) + 1 : Int32) = 1 from by decide]
  rw [m_X0_all_L4, if_neg (show ¬ (5 : Int32) ≤ (1 : Int32) by decide), show ((1 : Int32) + 1 : Int32) = 2 from by decide]
  rw [m_X0_all_L4, if_neg (show ¬ (5 : Int32) ≤ (2 : Int32) by decide), show ((2 : Int32) + 1 : Int32) = 3 from by decide]
  rw [m_X0_all_L4, if_neg (show ¬ (5 : Int32) ≤ (3 : Int32) by decide), show ((3 : Int32) + 1 : Int32) = 4 from by decide]
  rw [m_X0_all_L4, if_neg (show ¬ (5 : Int32) ≤ (4 : Int32) by decide), show ((4 : Int32) + 1 : Int32) = 5 from by decide]
  rw [m_X0_all_L4, if_pos (show (5 : Int32) ≤ 5 by decide)]
end UN
theorem tot_all (de : Nat → Int32) : m_X1_all de = 0 + m_X1_owedBy de 0 + m_X1_owedBy de 1 + m_X1_owedBy de 2 + m_X1_owedBy de 3 + m_X1_owedBy de 4 := all_u de 0 94
theorem tot_oby (de : Nat → Int32) (x : Int32) : m_X1_owedBy de x = 0 + m_X1_ofAllSorts de x 0 + m_X1_ofAllSorts de x 1 + m_X1_ofAllSorts de x 2 + m_X1_ofAllSorts de x 3 + m_X1_ofAllSorts de x 4 := oby_u de x 0 94
theorem tot_oto (de : Nat → Int32) (x : Int32) : m_X1_owedTo de x = 0 + m_X1_ofAllSorts de 0 x + m_X1_ofAllSorts de 1 x + m_X1_ofAllSorts de 2 x + m_X1_ofAllSorts de 3 x + m_X1_ofAllSorts de 4 x := oto_u de x 0 94
theorem tot_cal (co : CoT) : m_X0_all co = 0 + cC co 0 + cC co 1 + cC co 2 + cC co 3 + cC co 4 := cal_u co 0 94
theorem sw25 (a b c d e f g h i j k l m n o p q r s t u v w x y : Int32) : 0 + (0 + a + b + c + d + e) + (0 + f + g + h + i + j) + (0 + k + l + m + n + o) + (0 + p + q + r + s + t) + (0 + u + v + w + x + y) = 0 + (0 + a + f + k + p + u) + (0 + b + g + l + q + v) + (0 + c + h + m + r + w) + (0 + d + i + n + s + x) + (0 + e + j + o + t + y) := by grind
theorem tot_get (de : Nat → Int32) : 0 + m_X1_owedBy de 0 + m_X1_owedBy de 1 + m_X1_owedBy de 2 + m_X1_owedBy de 3 + m_X1_owedBy de 4 = 0 + m_X1_owedTo de 0 + m_X1_owedTo de 1 + m_X1_owedTo de 2 + m_X1_owedTo de 3 + m_X1_owedTo de 4 := by
  rw [tot_oby, tot_oby, tot_oby, tot_oby, tot_oby, tot_oto, tot_oto, tot_oto, tot_oto, tot_oto]
  exact sw25 _ _ _ _ _ _ _ _ _ _ _ _ _ _ _ _ _ _ _ _ _ _ _ _ _
section KVA
variable {z : SpT} {b c : Int32}
theorem kv_a2 : kV (callP z 2 2 b c) = m_X7_usableOnes (sU (pN z)) := by
  rw [cp_2]
  unfold m_X8_about
  rw [if_neg (show ¬ (2 : Int32) = 0 by decide), if_neg (show ¬ (2 : Int32) = 1 by decide), if_pos (show (2 : Int32) = 2 from rfl), kV_ok]
theorem kv_a3 : kV (callP z 2 3 b c) = m_X7_onLoan (sU (pN z)) := by
  rw [cp_2]
  unfold m_X8_about
  rw [if_neg (show ¬ (3 : Int32) = 0 by decide), if_neg (show ¬ (3 : Int32) = 1 by decide), if_neg (show ¬ (3 : Int32) = 2 by decide), if_pos (show (3 : Int32) = 3 from rfl), kV_ok]
theorem kv_a5 : kV (callP z 2 5 b c) = m_X0_all (sC (pN z)) := by
  rw [cp_2]
  unfold m_X8_about
  rw [if_neg (show ¬ (5 : Int32) = 0 by decide), if_neg (show ¬ (5 : Int32) = 1 by decide), if_neg (show ¬ (5 : Int32) = 2 by decide), if_neg (show ¬ (5 : Int32) = 3 by decide), if_neg (show ¬ (5 : Int32) = 4 by decide), if_pos (show (5 : Int32) = 5 from rfl), kV_ok]
theorem kv_a6 : kV (callP z 2 6 b c) = m_X1_all (sD (pN z)) := by
  rw [cp_2]
  unfold m_X8_about
  rw [if_neg (show ¬ (6 : Int32) = 0 by decide), if_neg (show ¬ (6 : Int32) = 1 by decide), if_neg (show ¬ (6 : Int32) = 2 by decide), if_neg (show ¬ (6 : Int32) = 3 by decide), if_neg (show ¬ (6 : Int32) = 4 by decide), if_neg (show ¬ (6 : Int32) = 5 by decide), if_pos (show (6 : Int32) = 6 from rfl), kV_ok]
theorem kv_a9 : kV (callP z 2 9 b c) = sO (pN z) := by
  rw [cp_2]
  unfold m_X8_about
  rw [if_neg (show ¬ (9 : Int32) = 0 by decide), if_neg (show ¬ (9 : Int32) = 1 by decide), if_neg (show ¬ (9 : Int32) = 2 by decide), if_neg (show ¬ (9 : Int32) = 3 by decide), if_neg (show ¬ (9 : Int32) = 4 by decide), if_neg (show ¬ (9 : Int32) = 5 by decide), if_neg (show ¬ (9 : Int32) = 6 by decide), if_neg (show ¬ (9 : Int32) = 7 by decide), if_neg (show ¬ (9 : Int32) = 8 by decide), if_pos (show (9 : Int32) = 9 from rfl), kV_ok]
theorem kv_18 {h k : Int32} (h1 : ¬ m_X8_isHolder h = 0) (h2 : ¬ m_X8_isKind k = 0) : kV (callP z 18 h k c) = m_X7_mostCompleted (sU (pN z)) h k := by
  rw [cp_18]
  unfold m_X8_complete
  rw [if_neg h1, if_neg h2, kV_ok]
theorem kv_19 {h k : Int32} (h1 : ¬ m_X8_isHolder h = 0) (h2 : ¬ m_X8_isKind k = 0) : kV (callP z 19 h k c) = m_X7_fewestTakings (sU (pN z)) h k := by
  rw [cp_19]
  unfold m_X8_takings
  rw [if_neg h1, if_neg h2, kV_ok]
theorem kv_21 {h k : Int32} (h1 : ¬ m_X8_isHolder h = 0) (h2 : ¬ m_X8_isKind k = 0) : kV (callP z 21 h k c) = m_X5_cheapestCore (pN z) h k := by
  rw [cp_21]
  unfold m_X8_cheapest
  rw [if_neg h1, if_neg h2, kV_ok]
theorem kv_owed {a d e f : Int32} (h1 : iv 0 4 a) (h2 : iv 0 4 d) (h3 : iv 0 2 e) (h4 : iv 0 2 f) : kV (m_X8_owed z a d e f) = sD (pN z) (45 * a.toNatClampNeg + 9 * d.toNatClampNeg + (3 * e.toNatClampNeg + f.toNatClampNeg)) := by
  unfold m_X8_owed
  rw [if_neg (holdI h1), if_neg (holdI h2), if_neg (is_kind h3), if_neg (is_part h4), kV_ok, betw_eq h1 h2 h3 h4, dix_q]
end KVA
/-- no two owe one another the same part -/
theorem ow_fact {T : Int} {z : SpT} (g : SG T (pN z)) {a d e f : Int32} (h1 : iv 0 4 a) (h2 : iv 0 4 d) (h3 : iv 0 2 e) (h4 : iv 0 2 f) : kV (m_X8_owed z a d e f) = 0 ∨ (¬ a = d ∧ kV (m_X8_owed z d a e f) = 0) := by
  rw [kv_owed h1 h2 h3 h4, kv_owed h2 h1 h3 h4]
  have l1 := tnc4 h1
  have l2 := tnc4 h2
  have l3 := tnc2 h3
  have l4 := tnc2 h4
  rcases g.2.2.1.2 a.toNatClampNeg d.toNatClampNeg (3 * e.toNatClampNeg + f.toNatClampNeg) l1 l2 (by omega) with k | k
  · exact Or.inl k
  · by_cases c : a = d
    · subst c
      exact Or.inl k
    · exact Or.inr ⟨c, k⟩
/-- the first due is on loan, and there is one just where something is on loan -/
theorem due_L {un : UnT} (hu : uOK un) : ∀ (nF : Nat) (f m u : Int32), 0 ≤ u.toInt → u.toInt ≤ (uN un).toInt → ((uN un).toInt - u.toInt).toNat < nF → (m.toInt ≤ u.toInt ∧ ((f = -1 ∧ m = 0) ∨ ((¬ m_X7_has un f = 0 ∧ m_X7_isFree un f = 0) ∧ 0 < m.toInt))) → (m_X7_dueFirst_L4 nF un f u = -1 ∧ m_X7_onLoan_L4 nF un m u = 0) ∨ ((¬ m_X7_has un (m_X7_dueFirst_L4 nF un f u) = 0 ∧ m_X7_isFree un (m_X7_dueFirst_L4 nF un f u) = 0) ∧ 0 < (m_X7_onLoan_L4 nF un m u).toInt) := by
  intro nF
  induction nF with
  | zero => intro f m u h0 h1 h2; omega
  | succ nF ih =>
    intro f m u h0 h1 h2 e
    have b := hu.2
    rw [m_X7_dueFirst_L4, m_X7_onLoan_L4]
    by_cases c : uN un ≤ u
    · rw [if_pos c, if_pos c]
      exact e.2
    · rw [if_neg c, if_neg c]
      have hh : ¬ m_X7_has un u = 0 := is_has (by rw [i32_le] at c; omega)
      rw [i32_le] at c
      have s1 : (u + 1).toInt = u.toInt + 1 := by rw [i32_add (by rw [i32_1]; omega) (by rw [i32_1]; omega), i32_1]
      have m0 : 0 ≤ m.toInt := by
        rcases e.2 with q | q
        · rw [q.2, i32_0]; exact Int.le_refl _
        · omega
      have s2 : (m + 1).toInt = m.toInt + 1 := by rw [i32_add (by rw [i32_1]; omega) (by rw [i32_1]; omega), i32_1]
      by_cases d : m_X7_isFree un u = 0
      · rw [if_pos d, if_pos d]
        have gu : ¬ m_X7_has un u = 0 ∧ m_X7_isFree un u = 0 := ⟨hh, d⟩
        by_cases d1 : f = -1
        · rw [if_pos d1]
          exact ih u (m + 1) (u + 1) (by omega) (by omega) (by omega) ⟨by omega, Or.inr ⟨gu, by omega⟩⟩
        · rw [if_neg d1]
          have gf : ¬ m_X7_has un f = 0 ∧ m_X7_isFree un f = 0 := by
            rcases e.2 with q | q
            · exact absurd q.1 d1
            · exact q.1
          split
          · exact ih f (m + 1) (u + 1) (by omega) (by omega) (by omega) ⟨by omega, Or.inr ⟨gf, by omega⟩⟩
          · exact ih u (m + 1) (u + 1) (by omega) (by omega) (by omega) ⟨by omega, Or.inr ⟨gu, by omega⟩⟩
      · rw [if_neg d, if_neg d]
        have s3 : m + 0 = m := i32_z m
        rw [s3]
        exact ih f m (u + 1) (by omega) (by omega) (by omega) ⟨by omega, e.2⟩
theorem due_fact {un : UnT} (hu : uOK un) : (m_X7_dueFirst un = -1 ∧ m_X7_onLoan un = 0) ∨ ((¬ m_X7_has un (m_X7_dueFirst un) = 0 ∧ m_X7_isFree un (m_X7_dueFirst un) = 0) ∧ 0 < (m_X7_onLoan un).toInt) := by
  unfold m_X7_dueFirst m_X7_onLoan
  exact due_L hu 100 (-1) 0 0 (by decide) (by rw [i32_0]; exact hu.1) (fuel100 hu) ⟨by decide, Or.inl ⟨rfl, rfl⟩⟩
theorem chp_L {st : StT} (x1 x2 : Int32) : ∀ (nF : Nat) (b u : Int32), (b = -1 ∨ (¬ m_X7_isFreeCore (sU st) b = 0 ∧ ¬ m_X7_isOfKindAt (sU st) b x2 x1 = 0)) → 0 ≤ u.toInt → ((uN (sU st)).toInt - u.toInt).toNat < nF → uOK (sU st) → (m_X5_cheapestCore_L5 nF st x1 x2 b u = -1 ∨ (¬ m_X7_isFreeCore (sU st) (m_X5_cheapestCore_L5 nF st x1 x2 b u) = 0 ∧ ¬ m_X7_isOfKindAt (sU st) (m_X5_cheapestCore_L5 nF st x1 x2 b u) x2 x1 = 0)) := by
  intro nF
  induction nF with
  | zero => intro b u h h0 h2; omega
  | succ nF ih =>
    intro b u h h0 h2 hu
    have bb := hu.2
    rw [m_X5_cheapestCore_L5]
    by_cases c : uN (sU st) ≤ u
    · rw [if_pos c]; exact h
    rw [if_neg c]
    rw [i32_le] at c
    have s1 : (u + 1).toInt = u.toInt + 1 := by rw [i32_add (by rw [i32_1]; omega) (by rw [i32_1]; omega), i32_1]
    by_cases d1 : m_X7_isFreeCore (sU st) u = 0
    · rw [if_pos d1]; exact ih b (u + 1) h (by omega) (by omega) hu
    rw [if_neg d1]
    by_cases d2 : m_X7_isOfKindAt (sU st) u x2 x1 = 0
    · rw [if_pos d2]; exact ih b (u + 1) h (by omega) (by omega) hu
    rw [if_neg d2]
    split
    · exact ih u (u + 1) (Or.inr ⟨d1, d2⟩) (by omega) (by omega) hu
    split
    · exact ih b (u + 1) h (by omega) (by omega) hu
    · exact ih u (u + 1) (Or.inr ⟨d1, d2⟩) (by omega) (by omega) hu
theorem chp_fact {st : StT} (hu : uOK (sU st)) (x1 x2 : Int32) : m_X5_cheapestCore st x1 x2 = -1 ∨ (¬ m_X7_has (sU st) (m_X5_cheapestCore st x1 x2) = 0 ∧ uO (sU st) (m_X5_cheapestCore st x1 x2).toNatClampNeg = x1 ∧ uP (sU st) (m_X5_cheapestCore st x1 x2).toNatClampNeg = x1 ∧ uK (sU st) (m_X5_cheapestCore st x1 x2).toNatClampNeg = x2 ∧ ¬ x1 = 4) := by
  have h := chp_L (st := st) x1 x2 100 (-1) 0 (Or.inl rfl) (by decide) (fuel100 hu) hu
  have e : m_X5_cheapestCore_L5 100 st x1 x2 (-1) 0 = m_X5_cheapestCore st x1 x2 := rfl
  rw [e] at h
  generalize m_X5_cheapestCore st x1 x2 = b at *
  rcases h with h | ⟨h1, h2⟩
  · exact Or.inl h
  · right
    have hh := hs_isOfKindAt h2
    unfold m_X7_isOfKindAt at h2
    rw [if_neg hh] at h2
    by_cases k1 : uK (sU st) b.toNatClampNeg = x2
    case neg => rw [if_neg k1] at h2; exact absurd rfl h2
    by_cases k2 : uP (sU st) b.toNatClampNeg = x1
    case neg => rw [if_pos k1, if_neg k2] at h2; exact absurd rfl h2
    unfold m_X7_isFreeCore m_X7_isFree at h1
    rw [if_neg hh] at h1
    by_cases k3 : uP (sU st) b.toNatClampNeg = uO (sU st) b.toNatClampNeg
    case neg => rw [if_neg k3, if_pos (show (0 : Int32) = 0 from rfl)] at h1; exact absurd rfl h1
    rw [if_pos k3, if_neg (show ¬ (1 : Int32) = 0 by decide)] at h1
    by_cases k4 : uO (sU st) b.toNatClampNeg = 4
    · rw [if_pos k4] at h1; exact absurd rfl h1
    · exact ⟨hh, k3.symm.trans k2, k2, k1, fun e => k4 ((k3.symm.trans k2).trans e)⟩
