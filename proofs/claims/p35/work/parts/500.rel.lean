/-! The class's state and the model's row tell the same -/
theorem kn0 : (0 : Int32).toNatClampNeg = 0 := by decide
theorem kn1 : (1 : Int32).toNatClampNeg = 1 := by decide
theorem kn2 : (2 : Int32).toNatClampNeg = 2 := by decide
theorem kn3 : (3 : Int32).toNatClampNeg = 3 := by decide
theorem kn4 : (4 : Int32).toNatClampNeg = 4 := by decide
theorem kn5 : (5 : Int32).toNatClampNeg = 5 := by decide
theorem kn6 : (6 : Int32).toNatClampNeg = 6 := by decide
theorem kn7 : (7 : Int32).toNatClampNeg = 7 := by decide
theorem ii2 : (2 : Int32).toInt = 2 := by decide
theorem ii3 : (3 : Int32).toInt = 3 := by decide
theorem ii5 : (5 : Int32).toInt = 5 := by decide
theorem ii6 : (6 : Int32).toInt = 6 := by decide
theorem ii7 : (7 : Int32).toInt = 7 := by decide
theorem ii16 : (16 : Int32).toInt = 16 := by decide
theorem ii30 : (30 : Int32).toInt = 30 := by decide
theorem ii99 : (99 : Int32).toInt = 99 := by decide
theorem im1 : (-1 : Int32).toInt = -1 := by decide
theorem tnc_d (x : Int32) : x.toNatClampNeg = x.toInt.toNat := rfl
theorem i32_eq {x y : Int32} (h : x.toInt = y.toInt) : x = y := Int32.toInt_inj.mp h
theorem min_0 {a b c : Int64} (h : ¬ (b.toInt ≤ a.toInt ∧ a.toInt ≤ c.toInt)) : m_X9_in a b c = 0 := by
  rcases b01_in a b c with e | e
  · exact e
  · exact absurd (min_spec (by rw [e]; decide)) h
theorem hold_eq (x : Int32) : m_X9_isHolder x = m_X8_isHolder x := by
  unfold m_X9_isHolder m_X8_isHolder
  have g0 : (0 : Int64).toInt = 0 := by decide
  have g4 : (4 : Int64).toInt = 4 := by decide
  by_cases c1 : x < 0
  · rw [if_pos c1]
    rw [i32_lt, i32_0] at c1
    exact min_0 (by rw [i64_i]; omega)
  · rw [if_neg c1]
    rw [i32_lt, i32_0] at c1
    by_cases c2 : (5 : Int32) ≤ x
    · rw [if_pos c2]
      rw [i32_le, ii5] at c2
      exact min_0 (by rw [i64_i]; omega)
    · rw [if_neg c2]
      rw [i32_le, ii5] at c2
      exact min_of (by rw [i64_i]; omega) (by rw [i64_i]; omega)
theorem kind_eq (x : Int32) : m_X9_isKind x = m_X8_isKind x := by
  unfold m_X9_isKind m_X8_isKind
  have g0 : (0 : Int64).toInt = 0 := by decide
  have g4 : (2 : Int64).toInt = 2 := by decide
  by_cases c1 : x < 0
  · rw [if_pos c1]
    rw [i32_lt, i32_0] at c1
    exact min_0 (by rw [i64_i]; omega)
  · rw [if_neg c1]
    rw [i32_lt, i32_0] at c1
    by_cases c2 : (3 : Int32) ≤ x
    · rw [if_pos c2]
      rw [i32_le, ii3] at c2
      exact min_0 (by rw [i64_i]; omega)
    · rw [if_neg c2]
      rw [i32_le, ii3] at c2
      exact min_of (by rw [i64_i]; omega) (by rw [i64_i]; omega)
theorem part_eq (x : Int32) : m_X9_isPart x = m_X8_isPart x := kind_eq x
theorem unit_eq {un : UnT} {r : Nat → Int32} (h1 : r 1 = uN un) (hu : uOK un) (x : Int32) : m_X9_isUnit r x = m_X7_has un x := by
  unfold m_X9_isUnit m_X7_has
  have g0 : (0 : Int64).toInt = 0 := by decide
  have hs : (uN un - 1).toInt = (uN un).toInt - 1 := by
    have := hu.1
    have := hu.2
    rw [i32_sub (by rw [i32_1]; omega) (by rw [i32_1]; omega), i32_1]
  rw [kn1, h1]
  by_cases c1 : x < 0
  · rw [if_pos c1]
    rw [i32_lt, i32_0] at c1
    exact min_0 (by rw [i64_i]; omega)
  · rw [if_neg c1]
    rw [i32_lt, i32_0] at c1
    by_cases c2 : uN un ≤ x
    · rw [if_pos c2]
      rw [i32_le] at c2
      exact min_0 (by rw [i64_i, i64_i, hs]; omega)
    · rw [if_neg c2]
      rw [i32_le] at c2
      exact min_of (by rw [i64_i]; omega) (by rw [i64_i, i64_i, hs]; omega)
/-- units -/
def rsV (k o p q d : Nat → Int32) (n : Int32) (r : Nat → Int32) : Prop := r 1 = n ∧ ∀ u : Nat, u < n.toNatClampNeg → r (8 + 5 * u) = k u ∧ r (8 + 5 * u + 1) = o u ∧ r (8 + 5 * u + 2) = p u ∧ r (8 + 5 * u + 3) = q u ∧ (p u = o u → d u = -1) ∧ (¬ p u = o u → d u = r (8 + 5 * u + 4))
def rsU (z : UnT) (r : Nat → Int32) : Prop := rsV (uK z) (uO z) (uP z) (uQ z) (uD z) (uN z) r
/-- cores -/
def rsC (z : CoT) (r : Nat → Int32) : Prop := ∀ h : Nat, h < 5 → r (318 + 13 * h) = cC z h ∧ ∀ k : Nat, k < (cC z h).toNatClampNeg → r (318 + 13 * h + 1 + 2 * k) = cK z (6 * h + k) ∧ r (318 + 13 * h + 2 + 2 * k) = cD z (6 * h + k)
def rsD (z r : Nat → Int32) : Prop := ∀ i : Nat, i < 225 → r (93 + i) = z i
def rsA (z r : Nat → Int32) : Prop := ∀ h : Nat, h < 5 → r (88 + h) = z h
def rsS (z r : Nat → Int32) : Prop := ∀ i : Nat, i < 3 → r (2 + i) = z i
def rsN (z : StT) (r : Nat → Int32) : Prop := r 0 = sT z ∧ r 6 = sK z ∧ r 7 = sX z ∧ r 5 = sO z
def RS (z : StT) (r : Nat → Int32) : Prop := rsU (sU z) r ∧ rsC (sC z) r ∧ rsD (sD z) r ∧ rsA (sA z) r ∧ rsS (sS z) r ∧ rsN z r
/-- bounds of the row: today and debts at most T, settings in their ranges, no due day below 0, nobody owes itself -/
def BD (T : Int) (r : Nat → Int32) : Prop := (0 ≤ (r 0).toInt ∧ (r 0).toInt ≤ T) ∧ (∀ i : Nat, i < 225 → 0 ≤ (r (93 + i)).toInt ∧ (r (93 + i)).toInt ≤ T) ∧ (∀ h : Nat, h < 5 → ∀ q : Nat, q < 9 → r (93 + 54 * h + q) = 0) ∧ (iv 0 99 (r 2) ∧ iv 0 999 (r 3) ∧ iv 0 999 (r 4)) ∧ (∀ u : Nat, u < 16 → 0 ≤ (r (8 + 5 * u + 4)).toInt) ∧ ∀ h : Nat, h < 5 → ∀ k : Nat, k < 6 → 0 ≤ (r (318 + 13 * h + 2 + 2 * k)).toInt
theorem rsU.fr {z : UnT} {r r2 : Nat → Int32} (h : rsU z r) (e : ∀ j : Nat, (j = 1 ∨ (8 ≤ j ∧ j < 88)) → r2 j = r j) (hu : uOK z) : rsU z r2 := by
  refine ⟨(e 1 (Or.inl rfl)).trans h.1, fun u hu2 => ?_⟩
  have hb : u < 16 := by
    have := hu.2
    have := hu.1
    rw [tnc_d] at hu2
    omega
  obtain ⟨a1, a2, a3, a4, a5, a6⟩ := h.2 u hu2
  rw [e _ (by omega), e _ (by omega), e _ (by omega), e _ (by omega), e _ (by omega)]
  exact ⟨a1, a2, a3, a4, a5, a6⟩
theorem rsC.fr {z : CoT} {r r2 : Nat → Int32} (h : rsC z r) (e : ∀ j : Nat, (318 ≤ j ∧ j < 383) → r2 j = r j) (hc : coOK z) : rsC z r2 := by
  intro x hx
  obtain ⟨a1, a2⟩ := h x hx
  refine ⟨(e _ (by omega)).trans a1, fun k hk => ?_⟩
  have hb : k < 6 := by
    have := hc x hx
    rw [tnc_d] at hk
    omega
  obtain ⟨b1, b2⟩ := a2 k hk
  rw [e _ (by omega), e _ (by omega)]
  exact ⟨b1, b2⟩
theorem rsD.fr {z r r2 : Nat → Int32} (h : rsD z r) (e : ∀ j : Nat, (93 ≤ j ∧ j < 318) → r2 j = r j) : rsD z r2 := fun i hi => (e _ (by omega)).trans (h i hi)
theorem rsA.fr {z r r2 : Nat → Int32} (h : rsA z r) (e : ∀ j : Nat, (88 ≤ j ∧ j < 93) → r2 j = r j) : rsA z r2 := fun i hi => (e _ (by omega)).trans (h i hi)
theorem rsS.fr {z r r2 : Nat → Int32} (h : rsS z r) (e : ∀ j : Nat, (2 ≤ j ∧ j < 5) → r2 j = r j) : rsS z r2 := fun i hi => (e _ (by omega)).trans (h i hi)
theorem rsN.fr {z : StT} {r r2 : Nat → Int32} (h : rsN z r) (e : ∀ j : Nat, (j = 0 ∨ j = 5 ∨ j = 6 ∨ j = 7) → r2 j = r j) : rsN z r2 := ⟨(e 0 (by omega)).trans h.1, (e 6 (by omega)).trans h.2.1, (e 7 (by omega)).trans h.2.2.1, (e 5 (by omega)).trans h.2.2.2⟩
/-- what the relation says of the bounds that the class needs -/
theorem RS.ok {z : StT} {r : Nat → Int32} (h : RS z r) (hr : rOK r) : stOK z := by
  refine ⟨?_, fun x hx => ?_⟩
  · have e := h.1.1
    have g := hr.1
    rw [e] at g
    exact ⟨g.1, g.2⟩
  · have e := (h.2.1 x hx).1
    have g := hr.2.2 x hx
    rw [e] at g
    exact ⟨g.1, g.2⟩
theorem has_in {un : UnT} {u : Int32} (hu : uOK un) (c : ¬ m_X7_has un u = 0) : iv 0 15 u ∧ u.toNatClampNeg < (uN un).toNatClampNeg := by
  have g := hs_has c
  have := hu.2
  refine ⟨⟨g.1, by omega⟩, ?_⟩
  rw [tnc_d, tnc_d]
  omega
theorem ofk0 {r : Nat → Int32} {u : Int32} (hu : iv 0 15 u) : m_X9_of r u 0 = r (8 + 5 * u.toNatClampNeg) := by rw [of_eq hu iv_w0, kn0]; rfl
theorem ofk1 {r : Nat → Int32} {u : Int32} (hu : iv 0 15 u) : m_X9_of r u 1 = r (8 + 5 * u.toNatClampNeg + 1) := by rw [of_eq hu iv_w1, kn1]
theorem ofk2 {r : Nat → Int32} {u : Int32} (hu : iv 0 15 u) : m_X9_of r u 2 = r (8 + 5 * u.toNatClampNeg + 2) := by rw [of_eq hu iv_w2, kn2]
theorem ofk3 {r : Nat → Int32} {u : Int32} (hu : iv 0 15 u) : m_X9_of r u 3 = r (8 + 5 * u.toNatClampNeg + 3) := by rw [of_eq hu iv_w3, kn3]
theorem ofk4 {r : Nat → Int32} {u : Int32} (hu : iv 0 15 u) : m_X9_of r u 4 = r (8 + 5 * u.toNatClampNeg + 4) := by rw [of_eq hu iv_w4, kn4]
theorem layk0 {r : Nat → Int32} {u v : Int32} (hu : iv 0 15 u) : m_X9_lay r u 0 v = upd r (8 + 5 * u.toNatClampNeg) v := by rw [lay_eq hu iv_w0, kn0]; rfl
theorem layk1 {r : Nat → Int32} {u v : Int32} (hu : iv 0 15 u) : m_X9_lay r u 1 v = upd r (8 + 5 * u.toNatClampNeg + 1) v := by rw [lay_eq hu iv_w1, kn1]
theorem layk2 {r : Nat → Int32} {u v : Int32} (hu : iv 0 15 u) : m_X9_lay r u 2 v = upd r (8 + 5 * u.toNatClampNeg + 2) v := by rw [lay_eq hu iv_w2, kn2]
theorem layk3 {r : Nat → Int32} {u v : Int32} (hu : iv 0 15 u) : m_X9_lay r u 3 v = upd r (8 + 5 * u.toNatClampNeg + 3) v := by rw [lay_eq hu iv_w3, kn3]
theorem layk4 {r : Nat → Int32} {u v : Int32} (hu : iv 0 15 u) : m_X9_lay r u 4 v = upd r (8 + 5 * u.toNatClampNeg + 4) v := by rw [lay_eq hu iv_w4, kn4]
section LOOK
variable {z : StT} {r : Nat → Int32} {x : Int32}
theorem ru_k (h : rsU (sU z) r) (hu : uOK (sU z)) (c : ¬ m_X7_has (sU z) x = 0) : m_X9_of r x 0 = uK (sU z) x.toNatClampNeg := by
  have g := has_in hu c
  rw [ofk0 g.1]; exact (h.2 _ g.2).1
theorem ru_o (h : rsU (sU z) r) (hu : uOK (sU z)) (c : ¬ m_X7_has (sU z) x = 0) : m_X9_of r x 1 = uO (sU z) x.toNatClampNeg := by
  have g := has_in hu c
  rw [ofk1 g.1]; exact (h.2 _ g.2).2.1
theorem ru_p (h : rsU (sU z) r) (hu : uOK (sU z)) (c : ¬ m_X7_has (sU z) x = 0) : m_X9_of r x 2 = uP (sU z) x.toNatClampNeg := by
  have g := has_in hu c
  rw [ofk2 g.1]; exact (h.2 _ g.2).2.2.1
theorem ru_q (h : rsU (sU z) r) (hu : uOK (sU z)) (c : ¬ m_X7_has (sU z) x = 0) : m_X9_of r x 3 = uQ (sU z) x.toNatClampNeg := by
  have g := has_in hu c
  rw [ofk3 g.1]; exact (h.2 _ g.2).2.2.2.1
theorem ru_d (h : rsU (sU z) r) (hu : uOK (sU z)) (c : ¬ m_X7_has (sU z) x = 0) (n : ¬ uP (sU z) x.toNatClampNeg = uO (sU z) x.toNatClampNeg) : m_X9_of r x 4 = uD (sU z) x.toNatClampNeg := by
  have g := has_in hu c
  rw [ofk4 g.1]; exact ((h.2 _ g.2).2.2.2.2.2 n).symm
theorem free_eq (h : rsU (sU z) r) (hu : uOK (sU z)) (c : ¬ m_X7_has (sU z) x = 0) : m_X9_isFree r x = m_X7_isFree (sU z) x := by
  unfold m_X9_isFree m_X7_isFree
  rw [if_neg c, ru_o h hu c, ru_p h hu c]
  by_cases e : uP (sU z) x.toNatClampNeg = uO (sU z) x.toNatClampNeg
  · rw [if_pos e, if_pos e.symm]
  · rw [if_neg e, if_neg (fun q => e q.symm)]
theorem core_eq (h : rsU (sU z) r) (hu : uOK (sU z)) (c : ¬ m_X7_has (sU z) x = 0) : m_X9_isCore r x = m_X7_isFreeCore (sU z) x := by
  unfold m_X9_isCore m_X7_isFreeCore
  rw [free_eq h hu c, ru_o h hu c]
  by_cases e : uO (sU z) x.toNatClampNeg = 4
  · rw [if_pos e, if_pos e]
    by_cases f : m_X7_isFree (sU z) x = 0
    · rw [if_pos f]
    · rw [if_neg f]
  · rw [if_neg e, if_neg e]
theorem good_eq (h : rsU (sU z) r) (hu : uOK (sU z)) (c : ¬ m_X7_has (sU z) x = 0) : m_X9_isGood r x = m_X7_isGoodSpare (sU z) x := by
  unfold m_X9_isGood m_X7_isGoodSpare
  rw [free_eq h hu c, ru_o h hu c, ru_q h hu c]
  unfold m_X7_isUsable
  rw [if_neg c]
  by_cases f : m_X7_isFree (sU z) x = 0 <;> by_cases e : uO (sU z) x.toNatClampNeg = 4 <;> by_cases q : uQ (sU z) x.toNatClampNeg = 7 <;> simp [f, e, q]
end LOOK
theorem iv7_or {p : Int32} (h : iv 0 7 p) : p = 0 ∨ p = 1 ∨ p = 2 ∨ p = 3 ∨ p = 4 ∨ p = 5 ∨ p = 6 ∨ p = 7 := by
  have h1 := h.1
  have h2 := h.2
  have g : p.toInt = 0 ∨ p.toInt = 1 ∨ p.toInt = 2 ∨ p.toInt = 3 ∨ p.toInt = 4 ∨ p.toInt = 5 ∨ p.toInt = 6 ∨ p.toInt = 7 := by omega
  rcases g with g | g | g | g | g | g | g | g
  · exact Or.inl (i32_eq (by rw [g]; decide))
  · exact Or.inr (Or.inl (i32_eq (by rw [g]; decide)))
  · exact Or.inr (Or.inr (Or.inl (i32_eq (by rw [g]; decide))))
  · exact Or.inr (Or.inr (Or.inr (Or.inl (i32_eq (by rw [g]; decide)))))
  · exact Or.inr (Or.inr (Or.inr (Or.inr (Or.inl (i32_eq (by rw [g]; decide))))))
  · exact Or.inr (Or.inr (Or.inr (Or.inr (Or.inr (Or.inl (i32_eq (by rw [g]; decide)))))))
  · exact Or.inr (Or.inr (Or.inr (Or.inr (Or.inr (Or.inr (Or.inl (i32_eq (by rw [g]; decide))))))))
  · exact Or.inr (Or.inr (Or.inr (Or.inr (Or.inr (Or.inr (Or.inr (i32_eq (by rw [g]; decide))))))))
theorem bits7 {p : Int32} (h : iv 0 7 p) : (((3 : Int32) - (p &&& (1 : Int32))) - ((p >>> ((1 : Int32) &&& (31 : Int32))) &&& (1 : Int32))) - ((p >>> ((2 : Int32) &&& (31 : Int32))) &&& (1 : Int32)) = (3 : Int32) - (m_bitCount (p &&& (7 : Int32))) := by
  rcases iv7_or h with e | e | e | e | e | e | e | e
  all_goals (subst e; decide +kernel)
theorem miss7 {p : Int32} (h : iv 0 7 p) : iv 0 3 ((3 : Int32) - (m_bitCount (p &&& (7 : Int32)))) := by
  unfold iv
  rcases iv7_or h with e | e | e | e | e | e | e | e
  all_goals (subst e; decide +kernel)
section FEE
variable {z : StT} {r : Nat → Int32} {x : Int32}
theorem miss_eq (h : rsU (sU z) r) (hr : rOK r) (hu : uOK (sU z)) (c : ¬ m_X7_has (sU z) x = 0) : m_X9_missing r x = m_X7_missingParts (sU z) x := by
  unfold m_X9_missing m_X7_missingParts
  have g := has_in hu c
  have q := (hr.2.1 x.toNatClampNeg (by have := hu.2; have := hu.1; have := g.2; rw [tnc_d, tnc_d] at this; rw [tnc_d]; omega)).2.2.2
  rw [if_neg c, ru_q h hu c]
  rw [← ofk3 (r := r) g.1, ru_q h hu c] at q
  exact bits7 q
theorem miss_iv (h : rsU (sU z) r) (hr : rOK r) (hu : uOK (sU z)) (c : ¬ m_X7_has (sU z) x = 0) : iv 0 3 (m_X7_missingParts (sU z) x) := by
  unfold m_X7_missingParts
  have g := has_in hu c
  have q := (hr.2.1 x.toNatClampNeg (by have := hu.2; have := hu.1; have := g.2; rw [tnc_d, tnc_d] at this; rw [tnc_d]; omega)).2.2.2
  rw [if_neg c]
  rw [← ofk3 (r := r) g.1, ru_q h hu c] at q
  exact miss7 q
theorem price_eq (h : RS z r) (hr : rOK r) (c : ¬ m_X7_has (sU z) x = 0) : m_X9_priceOf r x = m_X5_priceForCore z x := by
  unfold m_X9_priceOf m_X5_priceForCore
  have hu := (h.ok hr).1
  have e1 := h.2.2.2.2.1 1 (by omega)
  have e2 := h.2.2.2.2.1 2 (by omega)
  rw [kn3, kn4, kn1, kn2, miss_eq h.1 hr hu c]
  rw [show r 3 = _ from e1, show r 4 = _ from e2]
theorem price_iv {T : Int} (h : RS z r) (hr : rOK r) (hB : BD T r) (c : ¬ m_X7_has (sU z) x = 0) : iv 0 3996 (m_X5_priceForCore z x) := by
  unfold m_X5_priceForCore
  have hu := (h.ok hr).1
  have e1 := h.2.2.2.2.1 1 (by omega)
  have e2 := h.2.2.2.2.1 2 (by omega)
  have b1 : iv 0 999 (sS z 1) := by rw [← e1]; exact hB.2.2.2.1.2.1
  have b2 : iv 0 999 (sS z 2) := by rw [← e2]; exact hB.2.2.2.1.2.2
  rw [kn1, kn2]
  exact iv_add (l := 0) (h := 3996) b1 (iv_mul (l := 0) (h := 2997) b2 (miss_iv h.1 hr hu c) (by decide)) (by decide)
theorem late_eq (h : RS z r) (due days : Int32) : m_X9_late r due days = m_X5_lateFees z due (sT z + days) := by
  unfold m_X9_late m_X5_lateFees
  have e0 := h.2.2.2.2.2.1
  have e2 := h.2.2.2.2.1 0 (by omega)
  rw [kn0, kn2, e0, show r 2 = _ from e2]
  by_cases c : (sT z + days) - due ≤ 0
  · have c2 : ¬ (0 : Int32) < (sT z + days) - due := by
      rw [i32_le, i32_0] at c
      rw [i32_lt, i32_0]
      omega
    rw [if_pos c, if_neg c2, Int32.mul_zero]
  · have c2 : (0 : Int32) < (sT z + days) - due := by
      rw [i32_le, i32_0] at c
      rw [i32_lt, i32_0]
      omega
    rw [if_neg c, if_pos c2, Int32.mul_comm]
theorem lateOf_eq (h : RS z r) (hr : rOK r) (c : ¬ m_X7_has (sU z) x = 0) (days : Int32) : m_X9_lateOf r x days = m_X5_feesFor z x days := by
  unfold m_X9_lateOf m_X5_feesFor
  have hu := (h.ok hr).1
  rw [if_neg c, free_eq h.1 hu c]
  by_cases f : m_X7_isFree (sU z) x = 0
  · rw [if_pos f, if_pos f]
    have n : ¬ uP (sU z) x.toNatClampNeg = uO (sU z) x.toNatClampNeg := fun e => by
      unfold m_X7_isFree at f
      rw [if_neg c, if_pos e] at f
      exact absurd f (by decide)
    rw [ru_d h.1 hu c n]
    exact late_eq h _ _
  · rw [if_neg f, if_neg f]
/-- a late fee is none or more, of a due day that is no less than 0 -/
theorem late_nn {T : Int} (h : RS z r) (hB : BD T r) (hT : T ≤ 10000000) {due days : Int32} (hd : 0 ≤ due.toInt) (hy : iv 0 99 days) : iv 0 1000000000 (m_X5_lateFees z due (sT z + days)) := by
  unfold m_X5_lateFees
  have e0 := h.2.2.2.2.2.1
  have e2 := h.2.2.2.2.1 0 (by omega)
  have b0 := hB.1
  have b2 : iv 0 99 (sS z 0) := by rw [← e2]; exact hB.2.2.2.1.1
  rw [e0] at b0
  have y1 := hy.1
  have y2 := hy.2
  have s1 : (sT z + days).toInt = (sT z).toInt + days.toInt := i32_add (by omega) (by omega)
  have dh := i32_hi due
  have s2 : (sT z + days - due).toInt = (sT z).toInt + days.toInt - due.toInt := by
    rw [i32_sub (by omega) (by omega), s1]
  rw [kn0]
  by_cases c : (0 : Int32) < sT z + days - due
  · rw [if_pos c]
    rw [i32_lt, i32_0, s2] at c
    have g : iv 0 10000099 (sT z + days - due) := ⟨by omega, by omega⟩
    exact iv_wide (iv_mul (l := 0) (h := 990009801) b2 g (by decide)) (by decide)
  · rw [if_neg c, Int32.mul_zero]
    exact iv_wide iv_0 (by decide)
end FEE
