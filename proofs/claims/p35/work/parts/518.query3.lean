section Q3
variable {z : StT} {r : Nat → Int32}
theorem at_eq {x1 x2 u : Int32} (h : RS z r) (hr : rOK r) (hs : ¬ m_X7_has (sU z) u = 0) : m_X9_isAt r u x1 x2 = m_X7_isOfKindAt (sU z) u x2 x1 := by
  have ok := h.ok hr
  unfold m_X9_isAt m_X7_isOfKindAt
  rw [if_neg hs, ru_p h.1 ok.1 hs, ru_k h.1 ok.1 hs]
  by_cases a1 : uP (sU z) u.toNatClampNeg = x1
  · rw [if_pos a1]
    by_cases a2 : uK (sU z) u.toNatClampNeg = x2
    · rw [if_pos a2, if_pos a2, if_pos a1]
    · rw [if_neg a2, if_neg a2]
  · rw [if_neg a1]
    by_cases a2 : uK (sU z) u.toNatClampNeg = x2
    · rw [if_pos a2, if_neg a1]
    · rw [if_neg a2]
/-- with so many gaps: the count, from a number on -/
theorem wg_add {un : UnT} {x1 x2 x3 : Int32} (hu : uOK un) : ∀ (nF : Nat) (n u : Int32), 0 ≤ n.toInt → n.toInt + ((uN un).toInt - u.toInt) ≤ 1000 → 0 ≤ u.toInt → u.toInt ≤ (uN un).toInt → ((uN un).toInt - u.toInt).toNat < nF → (m_X7_withGaps_L6 nF un x1 x2 x3 n u).toInt = n.toInt + (m_X7_withGaps_L6 nF un x1 x2 x3 0 u).toInt ∧ 0 ≤ (m_X7_withGaps_L6 nF un x1 x2 x3 0 u).toInt ∧ (m_X7_withGaps_L6 nF un x1 x2 x3 0 u).toInt ≤ (uN un).toInt - u.toInt := by
  have u16 := hu.2
  have i0 := i32_0
  have i1 := i32_1
  intro nF
  induction nF with
  | zero => intro n u h0 h1 h2 h3 hf; omega
  | succ nF ih =>
    intro n u h0 h1 h2 h3 hf
    rw [m_X7_withGaps_L6, m_X7_withGaps_L6]
    by_cases c : uN un ≤ u
    · rw [if_pos c, if_pos c]
      omega
    · have s := lp_s c
      have c2 := c
      rw [i32_le] at c2
      rw [if_neg c, if_neg c]
      have z1 : n + 0 = n := Int32.add_zero n
      by_cases a : m_X7_isOfKindAt un u x2 x1 = 0
      · rw [if_pos a, if_pos a, z1, show (0 : Int32) + 0 = 0 from rfl]
        have q1 := ih n (u + 1) h0 (by omega) (by omega) (by omega) (by omega)
        omega
      · rw [if_neg a, if_neg a]
        by_cases b : m_X7_missingParts un u = x3
        · rw [if_pos b, if_pos b, s01]
          have sn : (n + 1).toInt = n.toInt + 1 := by rw [i32_add (by omega) (by omega), i32_1]
          have q1 := ih (n + 1) (u + 1) (by omega) (by omega) (by omega) (by omega) (by omega)
          have q2 := ih 1 (u + 1) (by omega) (by omega) (by omega) (by omega) (by omega)
          omega
        · rw [if_neg b, if_neg b, z1, show (0 : Int32) + 0 = 0 from rfl]
          have q1 := ih n (u + 1) h0 (by omega) (by omega) (by omega) (by omega)
          omega
def imin (a b : Int) : Int := if a ≤ b then a else b
theorem imin_s (a b : Int) : imin a (1 + b) = imin (a - 1) b + 1 := by
  unfold imin
  by_cases g : a - 1 ≤ b
  · rw [if_pos (by omega), if_pos g]; omega
  · rw [if_neg (by omega), if_neg g]; omega
theorem imin_00 {a b : Int} (ha : a = 0) (hb : 0 ≤ b) : imin a b = 0 := by
  unfold imin
  rw [if_pos (by omega), ha]
theorem imin_z {a : Int} (ha : 0 ≤ a) : imin a 0 = 0 := by
  unfold imin
  by_cases q : a ≤ 0
  · rw [if_pos q]; omega
  · rw [if_neg q]
theorem imin_b {a b : Int} (ha : 0 ≤ a) (hb : 0 ≤ b) : 0 ≤ imin a b ∧ imin a b ≤ a := by
  unfold imin
  by_cases q : a ≤ b
  · rw [if_pos q]; omega
  · rw [if_neg q]; omega
theorem tk_s1 {le : Int32} (h : 0 ≤ le.toInt) : (le + -1).toInt = le.toInt - 1 := by
  rw [i32_add (by rw [im1]; have := i32_hi le; omega) (by rw [im1]; have := i32_hi le; omega), im1]; rfl
theorem tk_s2 {n la : Int32} (h0 : 0 ≤ n.toInt) (h1 : n.toInt ≤ 1000) (h2 : 0 ≤ la.toInt) (h3 : la.toInt ≤ 3) : (n + la).toInt = n.toInt + la.toInt := i32_add (by omega) (by omega)
theorem tk_v5 {le : Int32} (l0 : 0 ≤ le.toInt) (q : le ≤ 0) : le.toInt = 0 := by
  rw [i32_le, i32_0] at q
  omega
theorem tk_v6 {le n la : Int32} (l0 : 0 ≤ le.toInt) (l1 : le.toInt ≤ 16) (n0 : 0 ≤ n.toInt) (n1 : n.toInt + 3 * le.toInt ≤ 1000) (a0 : 0 ≤ la.toInt) (a1 : la.toInt ≤ 3) (q : ¬ le ≤ 0) : 0 ≤ (le + -1).toInt ∧ (le + -1).toInt ≤ 16 ∧ 0 ≤ (n + la).toInt ∧ (n + la).toInt + 3 * (le + -1).toInt ≤ 1000 ∧ (le + -1).toInt = le.toInt - 1 ∧ (n + la).toInt = n.toInt + la.toInt := by
  rw [i32_le, i32_0] at q
  have e1 := tk_s1 l0
  have e2 := tk_s2 (la := la) n0 (by omega) a0 a1
  omega
theorem tk_m {le n la W : Int32} (l0 : 0 ≤ le.toInt) (l1 : le.toInt ≤ 16) (n0 : 0 ≤ n.toInt) (n1 : n.toInt + 3 * le.toInt ≤ 48) (a0 : 0 ≤ la.toInt) (a1 : la.toInt ≤ 3) (w0 : 0 ≤ W.toInt) :
    le.toInt - imin le.toInt W.toInt = (le - (if W < le then W else le)).toInt ∧ n.toInt + la.toInt * imin le.toInt W.toInt = (n + (if W < le then W else le) * la).toInt ∧ 0 ≤ (le - (if W < le then W else le)).toInt ∧ (le - (if W < le then W else le)).toInt ≤ 16 ∧ 0 ≤ (n + (if W < le then W else le) * la).toInt ∧ (n + (if W < le then W else le) * la).toInt + 3 * (le - (if W < le then W else le)).toInt ≤ 48 := by
  generalize hm : (if W < le then W else le) = m
  have em : m.toInt = imin le.toInt W.toInt := by
    rw [← hm]
    unfold imin
    by_cases q : W < le
    · have q2 := q
      rw [i32_lt] at q2
      rw [if_pos q, if_neg (by omega)]
    · have q2 := q
      rw [i32_lt] at q2
      rw [if_neg q, if_pos (by omega)]
  have mb := imin_b l0 w0
  rw [← em] at mb ⊢
  have lm : 0 ≤ la.toInt * m.toInt ∧ la.toInt * m.toInt ≤ 3 * m.toInt := ⟨Int.mul_nonneg a0 mb.1, Int.mul_le_mul_of_nonneg_right a1 mb.1⟩
  have s1 : (le - m).toInt = le.toInt - m.toInt := i32_sub (by omega) (by omega)
  have s2 : (m * la).toInt = la.toInt * m.toInt := by rw [i32_mul (by rw [Int.mul_comm]; omega) (by rw [Int.mul_comm]; omega), Int.mul_comm]
  have s3 : (n + m * la).toInt = n.toInt + la.toInt * m.toInt := by rw [i32_add (by omega) (by omega), s2]
  omega
theorem tk_in {mo : MoT} {x1 x2 la : Int32} (h : RS z (mN mo)) (hr : rOK (mN mo)) (hL : 0 ≤ la.toInt ∧ la.toInt ≤ 3) : ∀ (nF : Nat) (le n u : Int32), 0 ≤ u.toInt → u.toInt ≤ (uN (sU z)).toInt → ((uN (sU z)).toInt - u.toInt).toNat < nF → 0 ≤ le.toInt → le.toInt ≤ 16 → 0 ≤ n.toInt → n.toInt + 3 * le.toInt ≤ 1000 →
    (m_X9_takings_L53 nF mo x1 x2 la le n u).1.toInt = le.toInt - imin le.toInt (m_X7_withGaps_L6 nF (sU z) x1 x2 la 0 u).toInt ∧ (m_X9_takings_L53 nF mo x1 x2 la le n u).2.1.toInt = n.toInt + la.toInt * imin le.toInt (m_X7_withGaps_L6 nF (sU z) x1 x2 la 0 u).toInt := by
  have ok := h.ok hr
  have u16 := ok.1.2
  have i0 := i32_0
  have i1 := i32_1
  intro nF
  induction nF with
  | zero => intro le n u h0 h1 hf l0 l1 n0 n1; omega
  | succ nF ih =>
    intro le n u h0 h1 hf l0 l1 n0 n1
    rw [m_X9_takings_L53, m_X7_withGaps_L6, kn1, h.1.1]
    by_cases c : uN (sU z) ≤ u
    · rw [if_pos c, if_pos c, i0, imin_z l0, Int.mul_zero, Int.sub_zero, Int.add_zero]
      exact ⟨rfl, rfl⟩
    · have s := lp_s c
      have c2 := c
      rw [i32_le] at c2
      have hs := has_of h0 c
      have v0 : 0 ≤ (u + 1).toInt := by omega
      have v1 : (u + 1).toInt ≤ (uN (sU z)).toInt := by omega
      have v2 : ((uN (sU z)).toInt - (u + 1).toInt).toNat < nF := by omega
      have v3 : (0 : Int32).toInt + ((uN (sU z)).toInt - (u + 1).toInt) ≤ 1000 := by omega
      have v4 : (1 : Int32).toInt + ((uN (sU z)).toInt - (u + 1).toInt) ≤ 1000 := by omega
      have i00 : 0 ≤ (0 : Int32).toInt := by decide
      have i11 : 0 ≤ (1 : Int32).toInt := by decide
      rw [if_neg c, if_neg c, at_eq h hr hs, miss_eq h.1 hr ok.1 hs, s01, show (0 : Int32) + 0 = 0 from rfl]
      have w0 := wg_add (x1 := x1) (x2 := x2) (x3 := la) ok.1 nF 0 (u + 1) i00 v3 v0 v1 v2
      have w1 := wg_add (x1 := x1) (x2 := x2) (x3 := la) ok.1 nF 1 (u + 1) i11 v4 v0 v1 v2
      have w1n : 0 ≤ (m_X7_withGaps_L6 nF (sU z) x1 x2 la 1 (u + 1)).toInt := by
        rw [w1.1, i1]
        exact Int.add_nonneg (by decide) w0.2.1
      by_cases lz : le ≤ 0
      · rw [if_pos lz]
        have q := ih le n (u + 1) v0 v1 v2 l0 l1 n0 n1
        rw [imin_00 (tk_v5 l0 lz) w0.2.1] at q
        by_cases a : m_X7_isOfKindAt (sU z) u x2 x1 = 0
        · rw [if_pos a, imin_00 (tk_v5 l0 lz) w0.2.1]; exact q
        · rw [if_neg a]
          by_cases b : m_X7_missingParts (sU z) u = la
          · rw [if_pos b, imin_00 (tk_v5 l0 lz) w1n]; exact q
          · rw [if_neg b, imin_00 (tk_v5 l0 lz) w0.2.1]; exact q
      · obtain ⟨x6, x7, x8, x9, y1, y2⟩ := tk_v6 l0 l1 n0 n1 hL.1 hL.2 lz
        rw [if_neg lz]
        by_cases a : m_X7_isOfKindAt (sU z) u x2 x1 = 0
        · rw [if_pos a, if_pos a]
          exact ih le n (u + 1) v0 v1 v2 l0 l1 n0 n1
        · rw [if_neg a, if_neg a]
          by_cases b : m_X7_missingParts (sU z) u = la
          · rw [if_pos b, if_pos b]
            have q := ih (le + -1) (n + la) (u + 1) v0 v1 v2 x6 x7 x8 x9
            rw [w1.1, i1, imin_s, q.1, q.2, y1, y2, Int.mul_add, Int.mul_one]
            generalize imin (le.toInt - 1) (m_X7_withGaps_L6 nF (sU z) x1 x2 la 0 (u + 1)).toInt = I
            generalize la.toInt * I = J
            clear q w0 w1 w1n ih
            exact ⟨by omega, by omega⟩
          · rw [if_neg b, if_neg b]
            exact ih le n (u + 1) v0 v1 v2 l0 l1 n0 n1
theorem tk_out {mo : MoT} {x1 x2 : Int32} (h : RS z (mN mo)) (hr : rOK (mN mo)) : ∀ (nF : Nat) (le n la : Int32), 0 ≤ la.toInt → (4 - la.toInt).toNat < nF → 0 ≤ le.toInt → le.toInt ≤ 16 → 0 ≤ n.toInt → n.toInt + 3 * le.toInt ≤ 48 → m_X9_takings_L44 nF mo x1 x2 le n la = (m_X7_fewestTakings_L13 nF (sU z) x1 x2 le n la, mR' mo 0) := by
  have ok := h.ok hr
  have u0 := ok.1.1
  have u16 := ok.1.2
  have i0 := i32_0
  have i00 : 0 ≤ (0 : Int32).toInt := by decide
  have i01 : (0 : Int32).toInt ≤ (uN (sU z)).toInt := by omega
  have i02 : ((uN (sU z)).toInt - (0 : Int32).toInt).toNat < 100 := by omega
  have i03 : (0 : Int32).toInt + ((uN (sU z)).toInt - (0 : Int32).toInt) ≤ 1000 := by omega
  intro nF
  induction nF with
  | zero => intro le n la h0 hf l0 l1 n0 n1; omega
  | succ nF ih =>
    intro le n la h0 hf l0 l1 n0 n1
    rw [m_X9_takings_L44, m_X7_fewestTakings_L13]
    by_cases c : (3 : Int32) < la
    · rw [if_pos c, if_pos c]
    · have c2 := c
      rw [i32_lt, ii3] at c2
      have la3 : la.toInt ≤ 3 := by omega
      have n1k : n.toInt + 3 * le.toInt ≤ 1000 := by omega
      have sp : (la + 1).toInt = la.toInt + 1 := by rw [i32_add (by rw [i32_1]; omega) (by rw [i32_1]; omega), i32_1]
      have y0 : 0 ≤ (la + 1).toInt := by omega
      have y1 : (4 - (la + 1).toInt).toNat < nF := by omega
      rw [if_neg c, if_neg c]
      have w := (wg_add (x1 := x1) (x2 := x2) (x3 := la) ok.1 100 0 0 i00 i03 i00 i01 i02).2.1
      obtain ⟨M1, M2, M3, M4, M5, M6⟩ := tk_m (W := m_X7_withGaps_L6 100 (sU z) x1 x2 la 0 0) l0 l1 n0 n1 h0 la3 w
      obtain ⟨g1, g2⟩ := tk_in (x1 := x1) (x2 := x2) (la := la) h hr ⟨h0, la3⟩ 100 le n 0 i00 i01 i02 l0 l1 n0 n1k
      rw [i32_eq (g1.trans M1), i32_eq (g2.trans M2)]
      exact ih _ _ _ y0 y1 M3 M4 M5 M6
theorem takings_eq {mo : MoT} {x1 x2 : Int32} (h : RS z (mN mo)) (hr : rOK (mN mo)) : m_X9_takings_L44 100 mo x1 x2 (m_X9_completeOn (mN mo) x1 x2) 0 0 = (m_X7_fewestTakings (sU z) x1 x2, mR' mo 0) := by
  have g := complete_eq (x1 := x1) (x2 := x2) h hr
  rw [g.1]
  unfold m_X7_fewestTakings
  have := g.2.1
  have := g.2.2
  exact tk_out h hr 100 _ _ _ (by decide) (by decide) (by omega) (by omega) (by decide) (by rw [i32_0]; omega)
/-! fees to pay -/
theorem bill_L {mo : MoT} {x1 x2 : Int32} (h : RS z (mN mo)) (hr : rOK (mN mo)) : ∀ (nF : Nat) (su u : Int32), 0 ≤ u.toInt → ((uN (sU z)).toInt - u.toInt).toNat < nF → m_X9_bill_L42 nF mo x1 x2 su u = (m_X5_feesToPay_L5 nF z x1 x2 su u, mR' mo 0) := by
  have ok := h.ok hr
  intro nF
  induction nF with
  | zero => intro su u h0 hf; omega
  | succ nF ih =>
    intro su u h0 hf
    rw [m_X9_bill_L42, m_X5_feesToPay_L5, kn1, h.1.1]
    by_cases c : uN (sU z) ≤ u
    · rw [if_pos c, if_pos c]
    · have hs := has_of h0 c
      rw [if_neg c, if_neg c, ru_p h.1 ok.1 hs, ru_o h.1 ok.1 hs, lateOf_eq h hr hs]
      by_cases a : uP (sU z) u.toNatClampNeg = x1
      · by_cases b : uO (sU z) u.toNatClampNeg = x1
        · rw [if_pos a, if_pos b, if_pos a, if_pos b]
          exact ih _ _ (lp_up h0 c) (lp_dec h0 c hf)
        · rw [if_pos a, if_neg b, if_pos a, if_neg b, Int32.sub_zero]
          exact ih _ _ (lp_up h0 c) (lp_dec h0 c hf)
      · by_cases b : uO (sU z) u.toNatClampNeg = x1
        · rw [if_neg a, if_pos b, if_neg a, if_pos b, Int32.add_zero]
          exact ih _ _ (lp_up h0 c) (lp_dec h0 c hf)
        · rw [if_neg a, if_neg b, if_neg a, if_neg b, Int32.add_zero, Int32.sub_zero]
          exact ih _ _ (lp_up h0 c) (lp_dec h0 c hf)
/-! the unit that is due first -/
theorem first_L {mo : MoT} (h : RS z (mN mo)) (hr : rOK (mN mo)) : ∀ (nF : Nat) (be u : Int32), 0 ≤ u.toInt → (be = -1 ∨ (¬ m_X7_has (sU z) be = 0 ∧ ¬ uP (sU z) be.toNatClampNeg = uO (sU z) be.toNatClampNeg)) → ((uN (sU z)).toInt - u.toInt).toNat < nF → m_X9_firstDue_L9 nF mo be u = (m_X7_dueFirst_L4 nF (sU z) be u, mR' mo 0) := by
  have ok := h.ok hr
  intro nF
  induction nF with
  | zero => intro be u h0 hb hf; omega
  | succ nF ih =>
    intro be u h0 hb hf
    rw [m_X9_firstDue_L9, m_X7_dueFirst_L4, kn1, h.1.1]
    by_cases c : uN (sU z) ≤ u
    · rw [if_pos c, if_pos c]
    · have hs := has_of h0 c
      rw [if_neg c, if_neg c, free_eq h.1 ok.1 hs]
      by_cases f : m_X7_isFree (sU z) u = 0
      · have n : ¬ uP (sU z) u.toNatClampNeg = uO (sU z) u.toNatClampNeg := fun e => by
          unfold m_X7_isFree at f
          rw [if_neg hs, if_pos e] at f
          exact absurd f (by decide)
        rw [if_pos f, if_pos f]
        by_cases e : be = -1
        · rw [if_pos e, if_pos e]
          exact ih _ _ (lp_up h0 c) (Or.inr ⟨hs, n⟩) (lp_dec h0 c hf)
        · obtain ⟨k1, k2⟩ := hb.resolve_left e
          rw [if_neg e, if_neg e, ru_d h.1 ok.1 hs n, ru_d h.1 ok.1 k1 k2]
          by_cases g : uD (sU z) be.toNatClampNeg ≤ uD (sU z) u.toNatClampNeg
          · rw [if_pos g, if_pos g]
            exact ih _ _ (lp_up h0 c) hb (lp_dec h0 c hf)
          · rw [if_neg g, if_neg g]
            exact ih _ _ (lp_up h0 c) (Or.inr ⟨hs, n⟩) (lp_dec h0 c hf)
      · rw [if_neg f, if_neg f]
        exact ih _ _ (lp_up h0 c) hb (lp_dec h0 c hf)
/-! the cheapest core -/
theorem cheap4_L {x2 : Int32} : ∀ (nF : Nat) (u : Int32), 0 ≤ u.toInt → ((uN (sU z)).toInt - u.toInt).toNat < nF → m_X5_cheapestCore_L5 nF z 4 x2 (-1) u = -1 := by
  intro nF
  induction nF with
  | zero => intro u h0 hf; omega
  | succ nF ih =>
    intro u h0 hf
    rw [m_X5_cheapestCore_L5]
    by_cases c : uN (sU z) ≤ u
    · rw [if_pos c]
    · have hs := has_of h0 c
      rw [if_neg c]
      by_cases f : m_X7_isFreeCore (sU z) u = 0
      · rw [if_pos f]
        exact ih _ (lp_up h0 c) (lp_dec h0 c hf)
      · have g : m_X7_isOfKindAt (sU z) u x2 4 = 0 := by
          unfold m_X7_isFreeCore m_X7_isFree at f
          unfold m_X7_isOfKindAt
          rw [if_neg hs] at f ⊢
          by_cases p : uP (sU z) u.toNatClampNeg = uO (sU z) u.toNatClampNeg
          · rw [if_pos p, if_neg (show ¬ (1 : Int32) = 0 by decide)] at f
            by_cases o : uO (sU z) u.toNatClampNeg = 4
            · rw [if_pos o] at f; exact absurd rfl f
            · by_cases k : uK (sU z) u.toNatClampNeg = x2
              · rw [if_pos k, if_neg (by rw [p]; exact o)]
              · rw [if_neg k]
          · rw [if_neg p, if_pos rfl] at f; exact absurd rfl f
        rw [if_neg f, if_pos g]
        exact ih _ (lp_up h0 c) (lp_dec h0 c hf)
theorem cheap_L {mo : MoT} {x1 x2 : Int32} (h : RS z (mN mo)) (hr : rOK (mN mo)) (n4 : ¬ x1 = 4) : ∀ (nF : Nat) (be u : Int32), 0 ≤ u.toInt → (be = -1 ∨ ¬ m_X7_has (sU z) be = 0) → ((uN (sU z)).toInt - u.toInt).toNat < nF → m_X9_cheapest_L33 nF mo x1 x2 be u = (m_X5_cheapestCore_L5 nF z x1 x2 be u, mR' mo 0) := by
  have ok := h.ok hr
  intro nF
  induction nF with
  | zero => intro be u h0 hb hf; omega
  | succ nF ih =>
    intro be u h0 hb hf
    rw [m_X9_cheapest_L33, m_X5_cheapestCore_L5, kn1, h.1.1]
    by_cases c : uN (sU z) ≤ u
    · rw [if_pos c, if_pos c]
    · have hs := has_of h0 c
      have up := lp_up h0 c
      have dn := lp_dec h0 c hf
      rw [if_neg c, if_neg c, if_neg n4, free_eq h.1 ok.1 hs, ru_o h.1 ok.1 hs, ru_k h.1 ok.1 hs, price_eq h hr hs]
      unfold m_X7_isFreeCore
      by_cases f : m_X7_isFree (sU z) u = 0
      · rw [if_pos f, if_pos f, if_pos rfl]
        by_cases o : uO (sU z) u.toNatClampNeg = x1
        · rw [if_pos o]; exact ih _ _ up hb dn
        · rw [if_neg o]; exact ih _ _ up hb dn
      · have p : uP (sU z) u.toNatClampNeg = uO (sU z) u.toNatClampNeg := by
          unfold m_X7_isFree at f
          rw [if_neg hs] at f
          by_cases p : uP (sU z) u.toNatClampNeg = uO (sU z) u.toNatClampNeg
          · exact p
          · rw [if_neg p] at f; exact absurd rfl f
        rw [if_neg f, if_neg f]
        unfold m_X7_isOfKindAt
        rw [if_neg hs, p]
        by_cases o : uO (sU z) u.toNatClampNeg = x1
        · rw [if_pos o, if_neg (show ¬ uO (sU z) u.toNatClampNeg = 4 by rw [o]; exact n4), if_neg (show ¬ (1 : Int32) = 0 by decide)]
          by_cases k : uK (sU z) u.toNatClampNeg = x2
          · rw [if_pos k, if_pos k, if_pos o, if_neg (show ¬ (1 : Int32) = 0 by decide)]
            by_cases e : be = -1
            · rw [if_pos e, if_pos e]
              exact ih _ _ up (Or.inr hs) dn
            · have k1 := hb.resolve_left e
              rw [if_neg e, if_neg e, price_eq h hr k1]
              by_cases g : m_X5_priceForCore z be ≤ m_X5_priceForCore z u
              · rw [if_pos g, if_pos g]; exact ih _ _ up hb dn
              · rw [if_neg g, if_neg g]; exact ih _ _ up (Or.inr hs) dn
          · rw [if_neg k, if_neg k, if_pos rfl]; exact ih _ _ up hb dn
        · rw [if_neg o]
          by_cases o4 : uO (sU z) u.toNatClampNeg = 4
          · rw [if_pos o4, if_pos rfl]; exact ih _ _ up hb dn
          · rw [if_neg o4, if_neg (show ¬ (1 : Int32) = 0 by decide)]
            by_cases k : uK (sU z) u.toNatClampNeg = x2
            · rw [if_pos k, if_neg o, if_pos rfl]; exact ih _ _ up hb dn
            · rw [if_neg k, if_pos rfl]; exact ih _ _ up hb dn
theorem cheap_eq {mo : MoT} {x1 x2 : Int32} (h : RS z (mN mo)) (hr : rOK (mN mo)) : m_X9_cheapest_L33 100 mo x1 x2 (-1) 0 = (m_X5_cheapestCore z x1 x2, mR' mo 0) := by
  have ok := h.ok hr
  have hf : ((uN (sU z)).toInt - (0 : Int32).toInt).toNat < 100 := by have := ok.1.2; rw [i32_0]; omega
  by_cases n4 : x1 = 4
  · subst n4
    unfold m_X5_cheapestCore
    rw [cheap4_L 100 0 (by decide) hf, m_X9_cheapest_L33]
    by_cases c : (mN mo) (1 : Int32).toNatClampNeg ≤ 0
    · rw [if_pos c]
    · rw [if_neg c, if_pos rfl]
  · exact cheap_L h hr n4 100 _ _ (by decide) (Or.inl rfl) hf
end Q3
