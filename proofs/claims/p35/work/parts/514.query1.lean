/-! looks: class beside reference -/
theorem has_of {un : UnT} {u : Int32} (h0 : 0 ≤ u.toInt) (c : ¬ uN un ≤ u) : ¬ m_X7_has un u = 0 := by
  unfold m_X7_has
  rw [if_neg (by rw [i32_lt, i32_0]; omega), if_neg c]
  decide
section Q1
variable {z : StT} {r : Nat → Int32}
theorem usable_L (h : RS z r) (hr : rOK r) : ∀ (nF : Nat) (n u : Int32), 0 ≤ u.toInt → m_X9_usable_L4 nF r n u = m_X7_usableOnes_L4 nF (sU z) n u := by
  have ok := h.ok hr
  intro nF
  induction nF with
  | zero => intro n u h0; rfl
  | succ nF ih =>
    intro n u h0
    rw [m_X9_usable_L4, m_X7_usableOnes_L4, kn1, h.1.1]
    by_cases c : uN (sU z) ≤ u
    · rw [if_pos c, if_pos c]
    · have hs := has_of h0 c
      rw [if_neg c, if_neg c, ru_q h.1 ok.1 hs]
      unfold m_X7_isUsable
      rw [if_neg hs]
      by_cases q : uQ (sU z) u.toNatClampNeg = 7
      · rw [if_pos q, if_pos q, if_neg (show ¬ (1 : Int32) = 0 by decide)]
        exact ih _ _ (lp_up h0 c)
      · rw [if_neg q, if_neg q, if_pos rfl]
        exact ih _ _ (lp_up h0 c)
theorem usable_eq (h : RS z r) (hr : rOK r) : m_X9_usable r = m_X7_usableOnes (sU z) := usable_L h hr 100 0 0 (by decide)
theorem cores_L (h : RS z r) : ∀ (nF : Nat) (n x : Int32), 0 ≤ x.toInt → m_X9_coresOwed_L4 nF r n x = m_X0_all_L4 nF (sC z) n x := by
  intro nF
  induction nF with
  | zero => intro n x h0; rfl
  | succ nF ih =>
    intro n x h0
    rw [m_X9_coresOwed_L4, m_X0_all_L4]
    by_cases c : (5 : Int32) ≤ x
    · rw [if_pos c, if_pos c]
    · have g : iv 0 4 x := by rw [i32_le, ii5] at c; exact ⟨h0, by omega⟩
      rw [if_neg c, if_neg c, ix_cores g, (h.2.1 _ (iv_tnc g (by decide))).1]
      exact ih _ _ (lp_up h0 c)
theorem cores_eq (h : RS z r) : m_X9_coresOwed r = m_X0_all (sC z) := cores_L h 100 0 0 (by decide)
/-- what about() says at its end -/
def aboutEnd (mo : MoT) (x1 lo la : Int32) : Int32 := if x1 = 0 then (mN mo) x1.toNatClampNeg else if x1 = 1 then (mN mo) x1.toNatClampNeg else if x1 = 2 then m_X9_usable (mN mo) else if x1 = 3 then lo else if x1 = 4 then la else if x1 = 5 then m_X9_coresOwed (mN mo) else if x1 = 6 then m_X9_partsOwed (mN mo) (-1) (-1) else if x1 = 7 then (mN mo) (6 : Int32).toNatClampNeg else if x1 = 8 then (mN mo) (7 : Int32).toNatClampNeg else (mN mo) (5 : Int32).toNatClampNeg
theorem about_L {mo : MoT} {x1 : Int32} (h : RS z (mN mo)) (hr : rOK (mN mo)) : ∀ (nF : Nat) (lo la u : Int32), 0 ≤ u.toInt → ((uN (sU z)).toInt - u.toInt).toNat < nF → m_X9_about_L33 nF mo x1 lo la u = (aboutEnd mo x1 (m_X7_onLoan_L4 nF (sU z) lo u) (m_X7_dueBefore_L4 nF (sU z) (sT z) la u), mR' mo 0) := by
  have ok := h.ok hr
  intro nF
  induction nF with
  | zero => intro lo la u h0 hf; omega
  | succ nF ih =>
    intro lo la u h0 hf
    rw [m_X9_about_L33, m_X7_onLoan_L4, m_X7_dueBefore_L4, kn1, h.1.1]
    by_cases c : uN (sU z) ≤ u
    · rw [if_pos c, if_pos c, if_pos c]
      unfold aboutEnd
      by_cases q0 : x1 = 0
      · rw [if_pos q0, if_pos q0]
      rw [if_neg q0, if_neg q0]
      by_cases q1 : x1 = 1
      · rw [if_pos q1, if_pos q1]
      rw [if_neg q1, if_neg q1]
      by_cases q2 : x1 = 2
      · rw [if_pos q2, if_pos q2]
      rw [if_neg q2, if_neg q2]
      by_cases q3 : x1 = 3
      · rw [if_pos q3, if_pos q3]
      rw [if_neg q3, if_neg q3]
      by_cases q4 : x1 = 4
      · rw [if_pos q4, if_pos q4]
      rw [if_neg q4, if_neg q4]
      by_cases q5 : x1 = 5
      · rw [if_pos q5, if_pos q5]
      rw [if_neg q5, if_neg q5]
      by_cases q6 : x1 = 6
      · rw [if_pos q6, if_pos q6]
      rw [if_neg q6, if_neg q6]
      by_cases q7 : x1 = 7
      · rw [if_pos q7, if_pos q7]
      rw [if_neg q7, if_neg q7]
      by_cases q8 : x1 = 8
      · rw [if_pos q8, if_pos q8]
      rw [if_neg q8, if_neg q8]
    · have hs := has_of h0 c
      rw [if_neg c, if_neg c, if_neg c, free_eq h.1 ok.1 hs, kn0, h.2.2.2.2.2.1]
      by_cases f : m_X7_isFree (sU z) u = 0
      · have n : ¬ uP (sU z) u.toNatClampNeg = uO (sU z) u.toNatClampNeg := fun e => by
          unfold m_X7_isFree at f
          rw [if_neg hs, if_pos e] at f
          exact absurd f (by decide)
        rw [if_pos f, if_pos f, if_pos f, ru_d h.1 ok.1 hs n]
        by_cases g : sT z ≤ uD (sU z) u.toNatClampNeg
        · rw [if_pos g, if_pos g]
          exact ih _ _ _ (lp_up h0 c) (lp_dec h0 c hf)
        · rw [if_neg g, if_neg g]
          exact ih _ _ _ (lp_up h0 c) (lp_dec h0 c hf)
      · rw [if_neg f, if_neg f, if_neg f]
        exact ih _ _ _ (lp_up h0 c) (lp_dec h0 c hf)
def holderEnd (mo : MoT) (x1 x2 ow pl bo : Int32) : Int32 := if x2 = 0 then (mN mo) ((88 : Int32) + x1).toNatClampNeg else if x2 = 1 then ow else if x2 = 2 then pl else if x2 = 3 then bo else if x2 = 4 then (mN mo) (m_X9_coresAt x1).toNatClampNeg else if x2 = 5 then m_X9_partsOwed (mN mo) x1 (-1) else m_X9_partsOwed (mN mo) (-1) x1
theorem holder_L {mo : MoT} {x1 x2 : Int32} (h : RS z (mN mo)) (hr : rOK (mN mo)) : ∀ (nF : Nat) (ow pl bo u : Int32), 0 ≤ u.toInt → ((uN (sU z)).toInt - u.toInt).toNat < nF → m_X9_holder_L48 nF mo x1 x2 ow pl bo u = (holderEnd mo x1 x2 (m_X7_ownedBy_L4 nF (sU z) x1 ow u) (m_X7_placedAt_L4 nF (sU z) x1 pl u) (m_X7_borrowedBy_L4 nF (sU z) x1 bo u), mR' mo 0) := by
  have ok := h.ok hr
  intro nF
  induction nF with
  | zero => intro ow pl bo u h0 hf; omega
  | succ nF ih =>
    intro ow pl bo u h0 hf
    rw [m_X9_holder_L48, m_X7_ownedBy_L4, m_X7_placedAt_L4, m_X7_borrowedBy_L4, kn1, h.1.1]
    by_cases c : uN (sU z) ≤ u
    · rw [if_pos c, if_pos c, if_pos c, if_pos c]
      unfold holderEnd
      by_cases q0 : x2 = 0
      · rw [if_pos q0, if_pos q0]
      rw [if_neg q0, if_neg q0]
      by_cases q1 : x2 = 1
      · rw [if_pos q1, if_pos q1]
      rw [if_neg q1, if_neg q1]
      by_cases q2 : x2 = 2
      · rw [if_pos q2, if_pos q2]
      rw [if_neg q2, if_neg q2]
      by_cases q3 : x2 = 3
      · rw [if_pos q3, if_pos q3]
      rw [if_neg q3, if_neg q3]
      by_cases q4 : x2 = 4
      · rw [if_pos q4, if_pos q4]
      rw [if_neg q4, if_neg q4]
      by_cases q5 : x2 = 5
      · rw [if_pos q5, if_pos q5]
      rw [if_neg q5, if_neg q5]
    · have hs := has_of h0 c
      rw [if_neg c, if_neg c, if_neg c, if_neg c, ru_o h.1 ok.1 hs, ru_p h.1 ok.1 hs]
      by_cases a : uO (sU z) u.toNatClampNeg = x1
      · by_cases b : uP (sU z) u.toNatClampNeg = x1
        · rw [if_pos a, if_pos b, if_pos a, if_pos b, if_pos b, if_pos a]
          exact ih _ _ _ _ (lp_up h0 c) (lp_dec h0 c hf)
        · rw [if_pos a, if_neg b, if_pos a, if_neg b, if_neg b]
          exact ih _ _ _ _ (lp_up h0 c) (lp_dec h0 c hf)
      · by_cases b : uP (sU z) u.toNatClampNeg = x1
        · rw [if_neg a, if_pos b, if_neg a, if_pos b, if_pos b, if_neg a]
          exact ih _ _ _ _ (lp_up h0 c) (lp_dec h0 c hf)
        · rw [if_neg a, if_neg b, if_neg a, if_neg b, if_neg b]
          exact ih _ _ _ _ (lp_up h0 c) (lp_dec h0 c hf)
/-! parts that are owed -/
theorem sorts_ix {a o k : Int32} (ha : iv 0 4 a) (ho : iv 0 4 o) (hk : iv 0 8 k) : (m_X9_owedAt a o 0 0 + k).toNatClampNeg = 93 + (45 * a.toNatClampNeg + 9 * o.toNatClampNeg + k.toNatClampNeg) ∧ ((((a * 5) + o) * 9) + k).toNatClampNeg = 45 * a.toNatClampNeg + 9 * o.toNatClampNeg + k.toNatClampNeg := by
  have i0 : iv 0 2 (0 : Int32) := iv_wide iv_0 (by decide)
  have g1 := iv_int ha
  have g2 := iv_int ho
  have g3 := iv_int hk
  have a1 := ha.2
  have a2 := ho.2
  have a3 := hk.2
  have m := dIx_m ha ho i0 i0
  have ml := (iv_owedAt ha ho i0 i0).1
  have e : (m_X9_owedAt a o 0 0).toInt = 93 + dIx a o 0 0 := by rw [tnc_d] at m; omega
  unfold dIx at e
  rw [kn0] at e
  have t1 : (a * 5).toInt = a.toInt * 5 := by rw [i32_mul (by rw [ii5]; omega) (by rw [ii5]; omega), ii5]
  have t2 : (a * 5 + o).toInt = a.toInt * 5 + o.toInt := by rw [i32_add (by rw [t1]; omega) (by rw [t1]; omega), t1]
  have e9 : (9 : Int32).toInt = 9 := by decide
  have t3 : ((a * 5 + o) * 9).toInt = (a.toInt * 5 + o.toInt) * 9 := by rw [i32_mul (by rw [t2, e9]; omega) (by rw [t2, e9]; omega), t2, e9]
  constructor
  · rw [tnc_d, i32_add (by omega) (by omega), e]
    omega
  · rw [tnc_d, i32_add (by rw [t3]; omega) (by rw [t3]; omega), t3]
    omega
theorem ps_in {x1 x2 a o : Int32} (h : RS z r) (ha : iv 0 4 a) (ho : iv 0 4 o) (p1 : x1 = -1 ∨ x1 = a) (p2 : x2 = -1 ∨ x2 = o) : ∀ (nF : Nat) (n k : Int32), 0 ≤ k.toInt → (m_X9_partsOwed_L23 nF r x1 x2 a o n k).1 = m_X1_ofAllSorts_L31 nF (sD z) a o n k := by
  intro nF
  induction nF with
  | zero => intro n k h0; rfl
  | succ nF ih =>
    intro n k h0
    rw [m_X9_partsOwed_L23, m_X1_ofAllSorts_L31]
    by_cases c : (9 : Int32) ≤ k
    · rw [if_pos c, if_pos c]
    · have e9 : (9 : Int32).toInt = 9 := by decide
      have hk : iv 0 8 k := by rw [i32_le, e9] at c; exact ⟨h0, by omega⟩
      have g := sorts_ix ha ho hk
      have l1 := iv_tnc (n := 5) ha (by decide)
      have l2 := iv_tnc (n := 5) ho (by decide)
      have l3 := iv_tnc (n := 9) hk (by decide)
      have step := ih (n + sD z (45 * a.toNatClampNeg + 9 * o.toNatClampNeg + k.toNatClampNeg)) (k + 1) (lp_up h0 c)
      rw [if_neg c, if_neg c, g.1, g.2, h.2.2.1 _ (by omega)]
      by_cases q1 : x1 = -1
      · rw [if_pos q1]
        by_cases q2 : x2 = -1
        · rw [if_pos q2]; exact step
        · rw [if_neg q2, if_pos (p2.resolve_left q2)]; exact step
      · rw [if_neg q1, if_pos (p1.resolve_left q1)]
        by_cases q2 : x2 = -1
        · rw [if_pos q2]; exact step
        · rw [if_neg q2, if_pos (p2.resolve_left q2)]; exact step
theorem ps_no {x1 x2 a o n : Int32} (p : ¬ ((x1 = -1 ∨ x1 = a) ∧ (x2 = -1 ∨ x2 = o))) : (m_X9_partsOwed_L23 100 r x1 x2 a o n 0).1 = n := by
  rw [m_X9_partsOwed_L23, if_neg (show ¬ (9 : Int32) ≤ 0 by decide)]
  by_cases q1 : x1 = -1
  · have p2 : ¬ (x2 = -1 ∨ x2 = o) := fun e => p ⟨Or.inl q1, e⟩
    rw [if_pos q1, if_neg (fun e => p2 (Or.inl e)), if_neg (fun e => p2 (Or.inr e))]
  · rw [if_neg q1]
    by_cases q2 : x1 = a
    · have p2 : ¬ (x2 = -1 ∨ x2 = o) := fun e => p ⟨Or.inr q2, e⟩
      rw [if_pos q2, if_neg (fun e => p2 (Or.inl e)), if_neg (fun e => p2 (Or.inr e))]
    · rw [if_neg q2]
theorem sorts_add {de : Nat → Int32} {a o : Int32} : ∀ (nF : Nat) (n m k : Int32), 0 ≤ k.toInt → (9 - k.toInt).toNat < nF → m_X1_ofAllSorts_L31 nF de a o (n + m) k = n + m_X1_ofAllSorts_L31 nF de a o m k := by
  intro nF
  induction nF with
  | zero => intro n m k h0 hf; omega
  | succ nF ih =>
    intro n m k h0 hf
    rw [m_X1_ofAllSorts_L31, m_X1_ofAllSorts_L31]
    by_cases c : (9 : Int32) ≤ k
    · rw [if_pos c, if_pos c]
    · have s := lp_s c
      have e9 : (9 : Int32).toInt = 9 := by decide
      have c2 := c
      rw [i32_le, e9] at c2
      rw [if_neg c, if_neg c, Int32.add_assoc]
      exact ih _ _ _ (by omega) (by omega)
theorem ps_one {x1 x2 a o n : Int32} (h : RS z r) (ha : iv 0 4 a) (ho : iv 0 4 o) (p1 : x1 = -1 ∨ x1 = a) (p2 : x2 = -1 ∨ x2 = o) : (m_X9_partsOwed_L23 100 r x1 x2 a o n 0).1 = n + m_X1_ofAllSorts (sD z) a o := by
  rw [ps_in h ha ho p1 p2 100 n 0 (by decide)]
  unfold m_X1_ofAllSorts
  rw [if_neg (hold_nz ha), if_neg (hold_nz ho)]
  have := sorts_add (de := sD z) (a := a) (o := o) 100 n 0 0 (by decide) (by decide)
  rw [Int32.add_zero] at this
  exact this
/-- all that a holder owes -/
theorem ps_row {x1 a : Int32} (h : RS z r) (ha : iv 0 4 a) (p1 : x1 = -1 ∨ x1 = a) : ∀ (nF : Nat) (n o : Int32), 0 ≤ o.toInt → (m_X9_partsOwed_L14 nF r x1 (-1) a n o).1 = m_X1_owedBy_L4 nF (sD z) a n o := by
  intro nF
  induction nF with
  | zero => intro n o h0; rfl
  | succ nF ih =>
    intro n o h0
    rw [m_X9_partsOwed_L14, m_X1_owedBy_L4]
    by_cases c : (5 : Int32) ≤ o
    · rw [if_pos c, if_pos c]
    · have ho : iv 0 4 o := by rw [i32_le, ii5] at c; exact ⟨h0, by omega⟩
      rw [if_neg c, if_neg c, ps_one h ha ho p1 (Or.inl rfl)]
      exact ih _ _ (lp_up h0 c)
theorem ps_rowno {x1 x2 a : Int32} (q1 : ¬ (x1 = -1 ∨ x1 = a)) : ∀ (nF : Nat) (n o : Int32), 0 ≤ o.toInt → (5 - o.toInt).toNat < nF → (m_X9_partsOwed_L14 nF r x1 x2 a n o).1 = n := by
  intro nF
  induction nF with
  | zero => intro n o h0 hf; omega
  | succ nF ih =>
    intro n o h0 hf
    rw [m_X9_partsOwed_L14]
    by_cases c : (5 : Int32) ≤ o
    · rw [if_pos c]
    · have s := lp_s c
      have c2 := c
      rw [i32_le, ii5] at c2
      rw [if_neg c, ps_no (fun e => q1 e.1)]
      exact ih _ _ (by omega) (by omega)
/-- of one to another: the column -/
theorem ps_col {x2 a : Int32} (h : RS z r) (ha : iv 0 4 a) (hx : iv 0 4 x2) : ∀ (nF : Nat) (n o : Int32), 0 ≤ o.toInt → (5 - o.toInt).toNat < nF → (m_X9_partsOwed_L14 nF r (-1) x2 a n o).1 = if o.toInt ≤ x2.toInt then n + m_X1_ofAllSorts (sD z) a x2 else n := by
  have n1 : ¬ x2 = -1 := fun e => by have := hx.1; rw [e, im1] at this; omega
  intro nF
  induction nF with
  | zero => intro n o h0 hf; omega
  | succ nF ih =>
    intro n o h0 hf
    rw [m_X9_partsOwed_L14]
    by_cases c : (5 : Int32) ≤ o
    · rw [if_pos c]
      rw [i32_le, ii5] at c
      rw [if_neg (by have := hx.2; omega)]
    · have s := lp_s c
      have c2 := c
      rw [i32_le, ii5] at c2
      have ho : iv 0 4 o := ⟨h0, by omega⟩
      rw [if_neg c]
      by_cases e : x2 = o
      · subst e
        rw [ps_one h ha ho (Or.inl rfl) (Or.inr rfl), ih _ _ (by omega) (by omega), if_neg (by omega), if_pos (by omega)]
      · rw [ps_no (fun q => q.2.elim n1 e), ih _ _ (by omega) (by omega)]
        have ne : ¬ x2.toInt = o.toInt := fun q => e (i32_eq q)
        by_cases f : o.toInt ≤ x2.toInt
        · rw [if_pos (by omega), if_pos f]
        · rw [if_neg (by omega), if_neg f]
theorem owedBy_add {de : Nat → Int32} {a : Int32} : ∀ (nF : Nat) (n m o : Int32), 0 ≤ o.toInt → (5 - o.toInt).toNat < nF → m_X1_owedBy_L4 nF de a (n + m) o = n + m_X1_owedBy_L4 nF de a m o := by
  intro nF
  induction nF with
  | zero => intro n m o h0 hf; omega
  | succ nF ih =>
    intro n m o h0 hf
    rw [m_X1_owedBy_L4, m_X1_owedBy_L4]
    by_cases c : (5 : Int32) ≤ o
    · rw [if_pos c, if_pos c]
    · have s := lp_s c
      have c2 := c
      rw [i32_le, ii5] at c2
      rw [if_neg c, if_neg c, Int32.add_assoc]
      exact ih _ _ _ (by omega) (by omega)
theorem parts_by_L {x1 : Int32} (h : RS z r) (hx : iv 0 4 x1) : ∀ (nF : Nat) (n a : Int32), 0 ≤ a.toInt → (5 - a.toInt).toNat < nF → m_X9_partsOwed_L5 nF r x1 (-1) n a = if a.toInt ≤ x1.toInt then n + m_X1_owedBy (sD z) x1 else n := by
  have n1 : ¬ x1 = -1 := fun e => by have := hx.1; rw [e, im1] at this; omega
  intro nF
  induction nF with
  | zero => intro n a h0 hf; omega
  | succ nF ih =>
    intro n a h0 hf
    rw [m_X9_partsOwed_L5]
    by_cases c : (5 : Int32) ≤ a
    · rw [if_pos c]
      rw [i32_le, ii5] at c
      rw [if_neg (by have := hx.2; omega)]
    · have s := lp_s c
      have c2 := c
      rw [i32_le, ii5] at c2
      have ha : iv 0 4 a := ⟨h0, by omega⟩
      rw [if_neg c]
      by_cases e : x1 = a
      · subst e
        have w := owedBy_add (de := sD z) (a := x1) 100 n 0 0 (by decide) (by decide)
        rw [Int32.add_zero] at w
        rw [ps_row h ha (Or.inr rfl) 100 n 0 (by decide), w, ih _ _ (by omega) (by omega), if_neg (by omega), if_pos (by omega)]
        rfl
      · rw [ps_rowno (fun q => q.elim n1 e) 100 n 0 (by decide) (by decide), ih _ _ (by omega) (by omega)]
        have ne : ¬ x1.toInt = a.toInt := fun q => e (i32_eq q)
        by_cases f : a.toInt ≤ x1.toInt
        · rw [if_pos (by omega), if_pos f]
        · rw [if_neg (by omega), if_neg f]
theorem parts_by {x1 : Int32} (h : RS z r) (hx : iv 0 4 x1) : m_X9_partsOwed r x1 (-1) = m_X1_owedBy (sD z) x1 := by
  have g := parts_by_L h hx 100 0 0 (by decide) (by decide)
  rw [if_pos (by rw [i32_0]; exact hx.1), Int32.zero_add] at g
  exact g
theorem parts_to_L {x2 : Int32} (h : RS z r) (hx : iv 0 4 x2) : ∀ (nF : Nat) (n a : Int32), 0 ≤ a.toInt → m_X9_partsOwed_L5 nF r (-1) x2 n a = m_X1_owedTo_L4 nF (sD z) x2 n a := by
  intro nF
  induction nF with
  | zero => intro n a h0; rfl
  | succ nF ih =>
    intro n a h0
    rw [m_X9_partsOwed_L5, m_X1_owedTo_L4]
    by_cases c : (5 : Int32) ≤ a
    · rw [if_pos c, if_pos c]
    · have c2 := c
      rw [i32_le, ii5] at c2
      have ha : iv 0 4 a := ⟨h0, by omega⟩
      rw [if_neg c, if_neg c, ps_col h ha hx 100 n 0 (by decide) (by decide), if_pos (by rw [i32_0]; exact hx.1)]
      exact ih _ _ (lp_up h0 c)
theorem parts_to {x2 : Int32} (h : RS z r) (hx : iv 0 4 x2) : m_X9_partsOwed r (-1) x2 = m_X1_owedTo (sD z) x2 := parts_to_L h hx 100 0 0 (by decide)
theorem parts_all_L (h : RS z r) : ∀ (nF : Nat) (n a : Int32), 0 ≤ a.toInt → m_X9_partsOwed_L5 nF r (-1) (-1) n a = m_X1_all_L4 nF (sD z) n a := by
  intro nF
  induction nF with
  | zero => intro n a h0; rfl
  | succ nF ih =>
    intro n a h0
    rw [m_X9_partsOwed_L5, m_X1_all_L4]
    by_cases c : (5 : Int32) ≤ a
    · rw [if_pos c, if_pos c]
    · have c2 := c
      rw [i32_le, ii5] at c2
      have ha : iv 0 4 a := ⟨h0, by omega⟩
      have w := owedBy_add (de := sD z) (a := a) 100 n 0 0 (by decide) (by decide)
      rw [Int32.add_zero] at w
      rw [if_neg c, if_neg c, ps_row h ha (Or.inl rfl) 100 n 0 (by decide), w]
      exact ih _ _ (lp_up h0 c)
theorem parts_all (h : RS z r) : m_X9_partsOwed r (-1) (-1) = m_X1_all (sD z) := parts_all_L h 100 0 0 (by decide)
end Q1
