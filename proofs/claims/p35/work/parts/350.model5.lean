def m_X9_does (r : (Nat → Int32)) (x1 : Int32) (x2 : Int32) (x3 : Int32) (x4 : Int32) : Int32 × (Nat → Int32) := if x1 = (97 : Int32) then if (m_X9_whyNotAdvance r x2 x3 x4) = (0 : Int32) then if (m_X9_advanceOn r x2 x3 x4).1 < (0 : Int32) then ((0 : Int32), (m_X9_advanceOn r x2 x3 x4).2) else ((1 : Int32), (m_X9_advanceOn r x2 x3 x4).2) else ((0 : Int32), r) else if x1 = (98 : Int32) then if (m_X9_whyNotBuy r x2 x3) = (0 : Int32) then if (m_X9_buyOn r x2 x3).1 < (0 : Int32) then ((0 : Int32), (m_X9_buyOn r x2 x3).2) else ((1 : Int32), (m_X9_buyOn r x2 x3).2) else ((0 : Int32), r) else if x1 = (99 : Int32) then if (m_X9_in x2.toInt64 (1 : Int64) (99 : Int64)) = (0 : Int32) then ((0 : Int32), r) else if (m_X9_daysOn r x2).1 ≤ (0 : Int32) then ((0 : Int32), (m_X9_daysOn r x2).2) else ((1 : Int32), (m_X9_daysOn r x2).2) else if x1 = (100 : Int32) then if (m_X9_in x2.toInt64 (1 : Int64) (99 : Int64)) = (0 : Int32) then ((0 : Int32), r) else if (m_X9_daysOn r x2).1 ≤ (0 : Int32) then ((0 : Int32), (m_X9_daysOn r x2).2) else ((1 : Int32), (m_X9_daysOn r x2).2) else if x1 = (101 : Int32) then if (m_X9_in x2.toInt64 (1 : Int64) (99 : Int64)) = (0 : Int32) then ((0 : Int32), r) else if (m_X9_daysOn r x2).1 ≤ (0 : Int32) then ((0 : Int32), (m_X9_daysOn r x2).2) else ((1 : Int32), (m_X9_daysOn r x2).2) else if x1 = (102 : Int32) then if (m_X9_in x2.toInt64 (1 : Int64) (99 : Int64)) = (0 : Int32) then ((0 : Int32), r) else if (m_X9_daysOn r x2).1 ≤ (0 : Int32) then ((0 : Int32), (m_X9_daysOn r x2).2) else ((1 : Int32), (m_X9_daysOn r x2).2) else if x1 = (103 : Int32) then if (m_X9_in x2.toInt64 (1 : Int64) (99 : Int64)) = (0 : Int32) then ((0 : Int32), r) else if (m_X9_daysOn r x2).1 ≤ (0 : Int32) then ((0 : Int32), (m_X9_daysOn r x2).2) else ((1 : Int32), (m_X9_daysOn r x2).2) else if x1 = (104 : Int32) then if (m_X9_in x2.toInt64 (1 : Int64) (99 : Int64)) = (0 : Int32) then ((0 : Int32), r) else if (m_X9_daysOn r x2).1 ≤ (0 : Int32) then ((0 : Int32), (m_X9_daysOn r x2).2) else ((1 : Int32), (m_X9_daysOn r x2).2) else if x1 = (105 : Int32) then if (m_X9_in x2.toInt64 (1 : Int64) (99 : Int64)) = (0 : Int32) then ((0 : Int32), r) else if (m_X9_daysOn r x2).1 ≤ (0 : Int32) then ((0 : Int32), (m_X9_daysOn r x2).2) else ((1 : Int32), (m_X9_daysOn r x2).2) else if x1 = (106 : Int32) then if (m_X9_in x2.toInt64 (1 : Int64) (99 : Int64)) = (0 : Int32) then ((0 : Int32), r) else if (m_X9_daysOn r x2).1 ≤ (0 : Int32) then ((0 : Int32), (m_X9_daysOn r x2).2) else ((1 : Int32), (m_X9_daysOn r x2).2) else if x1 = (107 : Int32) then if (m_X9_in x2.toInt64 (1 : Int64) (99 : Int64)) = (0 : Int32) then ((0 : Int32), r) else if (m_X9_daysOn r x2).1 ≤ (0 : Int32) then ((0 : Int32), (m_X9_daysOn r x2).2) else ((1 : Int32), (m_X9_daysOn r x2).2) else if x1 = (108 : Int32) then if (m_X9_whyNotLend r x2 x3 x4) = (0 : Int32) then if (m_X9_lendOn r x2 x3 x4).1 < (0 : Int32) then ((0 : Int32), (m_X9_lendOn r x2 x3 x4).2) else ((1 : Int32), (m_X9_lendOn r x2 x3 x4).2) else ((0 : Int32), r) else if x1 = (109 : Int32) then if (m_X9_in x2.toInt64 (1 : Int64) (99 : Int64)) = (0 : Int32) then ((0 : Int32), r) else if (m_X9_daysOn r x2).1 ≤ (0 : Int32) then ((0 : Int32), (m_X9_daysOn r x2).2) else ((1 : Int32), (m_X9_daysOn r x2).2) else if x1 = (110 : Int32) then if (m_X9_whyNotCome r x2 x3 x4) = (0 : Int32) then if (m_X9_comeOn r x2 x3 x4).1 < (0 : Int32) then ((0 : Int32), (m_X9_comeOn r x2 x3 x4).2) else ((1 : Int32), (m_X9_comeOn r x2 x3 x4).2) else ((0 : Int32), r) else if x1 = (111 : Int32) then if (m_X9_in x2.toInt64 (1 : Int64) (99 : Int64)) = (0 : Int32) then ((0 : Int32), r) else if (m_X9_daysOn r x2).1 ≤ (0 : Int32) then ((0 : Int32), (m_X9_daysOn r x2).2) else ((1 : Int32), (m_X9_daysOn r x2).2) else if x1 = (112 : Int32) then if (m_X9_in x2.toInt64 (1 : Int64) (99 : Int64)) = (0 : Int32) then ((0 : Int32), r) else if (m_X9_daysOn r x2).1 ≤ (0 : Int32) then ((0 : Int32), (m_X9_daysOn r x2).2) else ((1 : Int32), (m_X9_daysOn r x2).2) else if x1 = (113 : Int32) then if (m_X9_in x2.toInt64 (1 : Int64) (99 : Int64)) = (0 : Int32) then ((0 : Int32), r) else if (m_X9_daysOn r x2).1 ≤ (0 : Int32) then ((0 : Int32), (m_X9_daysOn r x2).2) else ((1 : Int32), (m_X9_daysOn r x2).2) else if x1 = (114 : Int32) then if (m_X9_whyNotBring r x2) = (0 : Int32) then if (m_X9_bringOn r x2).1 < (0 : Int32) then ((0 : Int32), (m_X9_bringOn r x2).2) else ((1 : Int32), (m_X9_bringOn r x2).2) else ((0 : Int32), r) else if x1 = (115 : Int32) then if (m_X9_in x2.toInt64 (1 : Int64) (99 : Int64)) = (0 : Int32) then ((0 : Int32), r) else if (m_X9_daysOn r x2).1 ≤ (0 : Int32) then ((0 : Int32), (m_X9_daysOn r x2).2) else ((1 : Int32), (m_X9_daysOn r x2).2) else if x1 = (116 : Int32) then if (m_X9_whyNotTake r x2 x3 x4) = (0 : Int32) then if (m_X9_takeOn r x2 x3 x4).1 < (0 : Int32) then ((0 : Int32), (m_X9_takeOn r x2 x3 x4).2) else ((1 : Int32), (m_X9_takeOn r x2 x3 x4).2) else ((0 : Int32), r) else if x1 = (117 : Int32) then if (m_X9_in x2.toInt64 (1 : Int64) (99 : Int64)) = (0 : Int32) then ((0 : Int32), r) else if (m_X9_daysOn r x2).1 ≤ (0 : Int32) then ((0 : Int32), (m_X9_daysOn r x2).2) else ((1 : Int32), (m_X9_daysOn r x2).2) else if x1 = (118 : Int32) then if (m_X9_whyNotDeliver r x2) = (0 : Int32) then if (m_X9_deliverOn r x2).1 < (0 : Int32) then ((0 : Int32), (m_X9_deliverOn r x2).2) else ((1 : Int32), (m_X9_deliverOn r x2).2) else ((0 : Int32), r) else if x1 = (119 : Int32) then if (m_X9_in x2.toInt64 (1 : Int64) (99 : Int64)) = (0 : Int32) then ((0 : Int32), r) else if (m_X9_daysOn r x2).1 ≤ (0 : Int32) then ((0 : Int32), (m_X9_daysOn r x2).2) else ((1 : Int32), (m_X9_daysOn r x2).2) else if x1 = (120 : Int32) then if (m_X9_whyNotExchange r x2 x3) = (0 : Int32) then if (m_X9_exchangeOn r x2 x3).1 < (0 : Int32) then ((0 : Int32), (m_X9_exchangeOn r x2 x3).2) else ((1 : Int32), (m_X9_exchangeOn r x2 x3).2) else ((0 : Int32), r) else if (m_X9_in x2.toInt64 (1 : Int64) (99 : Int64)) = (0 : Int32) then ((0 : Int32), r) else if (m_X9_daysOn r x2).1 ≤ (0 : Int32) then ((0 : Int32), (m_X9_daysOn r x2).2) else ((1 : Int32), (m_X9_daysOn r x2).2)
theorem b01_ite {α : Type} {P : Prop} [Decidable P] {a b : Int32 × α} (ha : a.1 = 0 ∨ a.1 = 1) (hb : b.1 = 0 ∨ b.1 = 1) : (if P then a else b).1 = 0 ∨ (if P then a else b).1 = 1 := by
  by_cases h : P
  · rw [if_pos h]; exact ha
  · rw [if_neg h]; exact hb
theorem b01_0 {α : Type} {x : α} : ((0 : Int32), x).1 = 0 ∨ ((0 : Int32), x).1 = 1 := Or.inl rfl
theorem b01_1 {α : Type} {x : α} : ((1 : Int32), x).1 = 0 ∨ ((1 : Int32), x).1 = 1 := Or.inr rfl
theorem rok_ite {α : Type} {P : Prop} [Decidable P] {a b : α × (Nat → Int32)} (ha : P → rOK a.2) (hb : ¬ P → rOK b.2) : rOK (if P then a else b).2 := by
  by_cases h : P
  · rw [if_pos h]; exact ha h
  · rw [if_neg h]; exact hb h
theorem rokW_ite {P : Prop} [Decidable P] {a b : MoT} (ha : P → rOK (mW a)) (hb : ¬ P → rOK (mW b)) : rOK (mW (if P then a else b)) := by
  by_cases h : P
  · rw [if_pos h]; exact ha h
  · rw [if_neg h]; exact hb h
theorem rokW2_ite {α : Type} {P : Prop} [Decidable P] {a b : α × MoT} (ha : P → rOK (mW a.2)) (hb : ¬ P → rOK (mW b.2)) : rOK (mW (if P then a else b).2) := by
  by_cases h : P
  · rw [if_pos h]; exact ha h
  · rw [if_neg h]; exact hb h
theorem b01_does (r : Nat → Int32) (a b c d : Int32) : (m_X9_does r a b c d).1 = 0 ∨ (m_X9_does r a b c d).1 = 1 := by
  unfold m_X9_does
  repeat' (refine b01_ite ?_ ?_)
  all_goals first
    | exact Or.inl rfl
    | exact Or.inr rfl
/-- the text's place and its length -/
def txtOK (mo : MoT) : Prop := iv 0 120 (mP mo) ∧ iv 0 120 (mZ mo)
theorem nb_t {mo : MoT} (h : txtOK mo) (c : ¬ mZ mo ≤ mP mo) : vp_in (mP mo) 120 := by
  rw [i32_le] at c
  have := h.1.1
  have := h.2.2
  exact bd_of (by omega) (by omega)
theorem nb_up {mo : MoT} (h : txtOK mo) (c : ¬ mZ mo ≤ mP mo) : txtOK (mP' mo (mP mo + 1)) := by
  rw [i32_le] at c
  obtain ⟨h1, h2⟩ := h
  have := h1.1
  have := h1.2
  have := h2.2
  refine ⟨?_, h2⟩
  have e : (mP mo + 1).toInt = (mP mo).toInt + 1 := by rw [i32_add (by rw [i32_1]; omega) (by rw [i32_1]; omega), i32_1]
  exact ⟨by rw [mP_mP', e]; omega, by rw [mP_mP', e]; omega⟩
theorem nb_dec {w : Int32} {n : Nat} (c : ¬ w ≤ 0) (hm : w.toInt.toNat < n + 1) : (w / 10).toInt.toNat < n := by
  rw [i32_le, i32_0] at c
  have e10 : (10 : Int32).toInt = 10 := by decide
  have e : (w / 10).toInt = w.toInt / 10 := by
    rw [Int32.toInt_div, e10]
    have h1 : w.toInt.tdiv 10 = w.toInt / 10 := Int.tdiv_eq_ediv_of_nonneg (by omega)
    rw [h1]
    have := i32_hi w
    exact bmod_of (by omega) (by omega)
  omega
def m_X9_number_L16 : Nat → MoT → Int32 → Int32 → Int32 → Int32 → Int32 → Int32 × MoT
  | 0, r, _, _, _, _, _ => (0, r)
  | nF + 1, r, x1, x2, x3, v, w => if w ≤ (0 : Int32) then (v, r) else if (mZ r) ≤ (mP r) then ((-1 : Int32), r) else if (m_X9_in (((mT r) (mP r).toNatClampNeg) - (48 : Int32)).toInt64 (0 : Int64) (9 : Int64)) = (0 : Int32) then ((-1 : Int32), r) else if x3 < (v + ((((mT r) (mP r).toNatClampNeg) - (48 : Int32)) * w)) then ((-1 : Int32), r) else if x2 ≤ (((v + ((((mT r) (mP r).toNatClampNeg) - (48 : Int32)) * w)) + w) - (1 : Int32)) then m_X9_number_L16 nF (mP' r ((mP r) + (1 : Int32))) x1 x2 x3 (v + ((((mT r) (mP r).toNatClampNeg) - (48 : Int32)) * w)) (w / (10 : Int32)) else ((-1 : Int32), r)
def m_X9_number (mo : MoT) (x1 : Int32) (x2 : Int32) (x3 : Int32) : Int32 × MoT := if x1 = (2 : Int32) then m_X9_number_L16 100 mo x1 x2 x3 (0 : Int32) (10 : Int32) else m_X9_number_L16 100 mo x1 x2 x3 (0 : Int32) (1 : Int32)
/-- number: only the place moves, forward, and not beyond the text -/
theorem nb_loop (x1 x2 x3 : Int32) : ∀ (nF : Nat) (r : MoT) (v w : Int32), ∃ p : Int32, (m_X9_number_L16 nF r x1 x2 x3 v w).2 = mP' r p ∧ (txtOK r → (mP r).toInt ≤ p.toInt ∧ txtOK (mP' r p)) := by
  intro nF
  induction nF with
  | zero => intro r v w; exact ⟨mP r, rfl, fun h => ⟨Int.le_refl _, h⟩⟩
  | succ nF ih =>
    intro r v w
    have stay : ∃ p : Int32, r = mP' r p ∧ (txtOK r → (mP r).toInt ≤ p.toInt ∧ txtOK (mP' r p)) := ⟨mP r, rfl, fun h => ⟨Int.le_refl _, h⟩⟩
    rw [m_X9_number_L16]
    split
    · exact stay
    · split
      · exact stay
      · rename_i hz
        have go : ∀ (v w : Int32), ∃ p : Int32, (m_X9_number_L16 nF (mP' r (mP r + 1)) x1 x2 x3 v w).2 = mP' r p ∧ (txtOK r → (mP r).toInt ≤ p.toInt ∧ txtOK (mP' r p)) := by
          intro v w
          obtain ⟨p, h1, h2⟩ := ih (mP' r (mP r + 1)) v w
          refine ⟨p, h1, fun ht => ?_⟩
          have ht2 := nb_up ht hz
          obtain ⟨h3, h4⟩ := h2 ht2
          refine ⟨?_, h4⟩
          rw [i32_le] at hz
          have g1 := ht.1.1
          have g2 := ht.2.2
          rw [mP_mP', i32_add (by rw [i32_1]; omega) (by rw [i32_1]; omega), i32_1] at h3
          omega
        repeat' split
        all_goals first | exact stay | exact go _ _
theorem nb_form (mo : MoT) (x1 x2 x3 : Int32) : ∃ p : Int32, (m_X9_number mo x1 x2 x3).2 = mP' mo p ∧ (txtOK mo → (mP mo).toInt ≤ p.toInt ∧ txtOK (mP' mo p)) := by
  unfold m_X9_number
  repeat' split
  all_goals exact nb_loop _ _ _ _ _ _ _
theorem nb_T {mo : MoT} {x1 x2 x3 : Int32} (h : txtOK mo) : txtOK (m_X9_number mo x1 x2 x3).2 := by
  obtain ⟨p, e, k⟩ := nb_form mo x1 x2 x3
  rw [e]
  exact (k h).2
theorem nb_W {mo : MoT} {x1 x2 x3 : Int32} (h : rOK (mW mo)) : rOK (mW (m_X9_number mo x1 x2 x3).2) := by
  obtain ⟨p, e, -⟩ := nb_form mo x1 x2 x3
  rw [e]
  exact h
theorem nb_le {mo : MoT} {x1 x2 x3 : Int32} (h : txtOK mo) : (mP mo).toInt ≤ (mP (m_X9_number mo x1 x2 x3).2).toInt := by
  obtain ⟨p, e, k⟩ := nb_form mo x1 x2 x3
  rw [e]
  exact (k h).1
theorem nb_Z {mo : MoT} {x1 x2 x3 : Int32} : mZ (m_X9_number mo x1 x2 x3).2 = mZ mo := by
  obtain ⟨p, e, -⟩ := nb_form mo x1 x2 x3
  rw [e]
  rfl
