/-! p35: what every state of the class keeps: money goes together, no two owe one another the same part, the pool owes no core -/
def SG (T : Int) (st : StT) : Prop := (sO st + sA st 0 + sA st 1 + sA st 2 + sA st 3 + sA st 4 = 0) ∧ cC (sC st) 4 = 0 ∧ ((∀ i : Nat, i < 225 → 0 ≤ (sD st i).toInt ∧ (sD st i).toInt ≤ T) ∧ ∀ a b q : Nat, a < 5 → b < 5 → q < 9 → sD st (45 * a + 9 * b + q) = 0 ∨ sD st (45 * b + 9 * a + q) = 0) ∧ ∀ u : Nat, u < 16 → iv 0 4 (uO (sU st) u) ∧ iv 0 4 (uP (sU st) u)
theorem SG.up {T T2 : Int} {st : StT} (h : SG T st) (e : T ≤ T2) : SG T2 st := ⟨h.1, h.2.1, ⟨fun i hi => ⟨(h.2.2.1.1 i hi).1, Int.le_trans (h.2.2.1.1 i hi).2 e⟩, h.2.2.1.2⟩, h.2.2.2⟩
/-- what of the state the laws speak of -/
theorem SG.of {T : Int} {st s2 : StT} (h : SG T st) (e1 : sO s2 = sO st) (e2 : sA s2 = sA st) (e3 : cC (sC s2) 4 = cC (sC st) 4) (e4 : sD s2 = sD st) (e5 : ∀ u : Nat, u < 16 → iv 0 4 (uO (sU s2) u) ∧ iv 0 4 (uP (sU s2) u)) : SG T s2 := by
  refine ⟨by rw [e1, e2]; exact h.1, e3.trans h.2.1, ?_, e5⟩
  rw [e4]
  exact h.2.2.1
theorem sum_upd (f : Nat → Int32) (x k : Int32) (i : Nat) (hi : i < 5) : x + upd f i k 0 + upd f i k 1 + upd f i k 2 + upd f i k 3 + upd f i k 4 = (x + f 0 + f 1 + f 2 + f 3 + f 4) - f i + k := by
  rcases (show i = 0 ∨ i = 1 ∨ i = 2 ∨ i = 3 ∨ i = 4 by omega) with rfl | rfl | rfl | rfl | rfl <;> simp only [upd] <;> simp <;> grind
theorem tn_lt {h : Int32} (c : ¬ m_X8_isHolder h = 0) : h.toNatClampNeg < 5 := by
  have := hs_isHolder c
  rw [tnc_d]; omega
/-- money that is paid goes from one account to another or outside -/
theorem SG.pay {T : Int} {st : StT} {a b x : Int32} (h : SG T st) (c : ¬ m_X8_isHolder a = 0) : SG T (m_X5_pay st a b x) := by
  have la := tn_lt c
  unfold m_X5_pay
  rw [if_neg c]
  by_cases d : m_X8_isHolder b = 0
  · rw [if_pos d]
    refine ⟨?_, h.2⟩
    show (sO st + x) + upd (sA st) a.toNatClampNeg (sA st a.toNatClampNeg - x) 0 + upd (sA st) a.toNatClampNeg (sA st a.toNatClampNeg - x) 1 + upd (sA st) a.toNatClampNeg (sA st a.toNatClampNeg - x) 2 + upd (sA st) a.toNatClampNeg (sA st a.toNatClampNeg - x) 3 + upd (sA st) a.toNatClampNeg (sA st a.toNatClampNeg - x) 4 = 0
    rw [sum_upd _ _ _ _ la]
    have := h.1
    grind
  · rw [if_neg d]
    have lb := tn_lt d
    refine ⟨?_, h.2⟩
    show sO st + upd (upd (sA st) a.toNatClampNeg (sA st a.toNatClampNeg - x)) b.toNatClampNeg (upd (sA st) a.toNatClampNeg (sA st a.toNatClampNeg - x) b.toNatClampNeg + x) 0 + upd (upd (sA st) a.toNatClampNeg (sA st a.toNatClampNeg - x)) b.toNatClampNeg (upd (sA st) a.toNatClampNeg (sA st a.toNatClampNeg - x) b.toNatClampNeg + x) 1 + upd (upd (sA st) a.toNatClampNeg (sA st a.toNatClampNeg - x)) b.toNatClampNeg (upd (sA st) a.toNatClampNeg (sA st a.toNatClampNeg - x) b.toNatClampNeg + x) 2 + upd (upd (sA st) a.toNatClampNeg (sA st a.toNatClampNeg - x)) b.toNatClampNeg (upd (sA st) a.toNatClampNeg (sA st a.toNatClampNeg - x) b.toNatClampNeg + x) 3 + upd (upd (sA st) a.toNatClampNeg (sA st a.toNatClampNeg - x)) b.toNatClampNeg (upd (sA st) a.toNatClampNeg (sA st a.toNatClampNeg - x) b.toNatClampNeg + x) 4 = 0
    rw [sum_upd _ _ _ _ lb, sum_upd _ _ _ _ la]
    have := h.1
    grind
theorem holdI {x : Int32} (h : iv 0 4 x) : ¬ m_X8_isHolder x = 0 := by
  unfold m_X8_isHolder
  have h1 := h.1
  have h2 := h.2
  rw [if_neg (by rw [i32_lt, i32_0]; omega)]
  split
  · rename_i c
    rw [i32_le, show (5 : Int32).toInt = 5 by decide] at c
    omega
  · decide
theorem iv_hold {x : Int32} (c : ¬ m_X8_isHolder x = 0) : iv 0 4 x := by
  have := hs_isHolder c
  exact ⟨by omega, by omega⟩
theorem has_lt {un : UnT} {u : Int32} (c : ¬ m_X7_has un u = 0) (ok : uOK un) : u.toNatClampNeg < 16 := by
  have h1 := hs_has c
  have h2 := ok.2
  rw [tnc_d]; omega
/-- a unit is given to a holder -/
theorem give_iv {un : UnT} {u h : Int32} (g : ∀ v : Nat, v < 16 → iv 0 4 (uO un v) ∧ iv 0 4 (uP un v)) (k : iv 0 4 h) : ∀ v : Nat, v < 16 → iv 0 4 (uO (m_X7_giveTo un u h) v) ∧ iv 0 4 (uP (m_X7_giveTo un u h) v) := by
  intro v hv9
  unfold m_X7_giveTo
  split
  · exact g v hv9
  · refine ⟨?_, ?_⟩
    · show iv 0 4 (if v = u.toNatClampNeg then h else uO un v)
      split
      · exact k
      · exact (g v hv9).1
    · show iv 0 4 (if v = u.toNatClampNeg then h else uP un v)
      split
      · exact k
      · exact (g v hv9).2
theorem iv_4 : iv 0 4 (4 : Int32) := ⟨by decide, by decide⟩
section SGA
variable {T : Int} {st : StT} {x1 x2 x3 x4 : Int32}
theorem sg_come (h : SG T st) : SG (T + 1) (m_X5_tryCome st x1 x2 x3).2 := by
  have h := h.up (T2 := T + 1) (by omega)
  unfold m_X5_tryCome
  by_cases c1 : m_X8_isKind x1 = 0
  · rw [if_pos c1]; exact h
  rw [if_neg c1]
  by_cases c2 : m_X8_isHolder x2 = 0
  · rw [if_pos c2]; exact h
  rw [if_neg c2]
  by_cases c3 : x3 < 0
  · rw [if_pos c3]; exact h
  rw [if_neg c3]
  by_cases c4 : x3 ≤ 7
  case neg => rw [if_neg c4]; exact h
  rw [if_pos c4]
  by_cases c5 : uN (sU st) < 16
  case neg => rw [if_neg c5]; exact h
  rw [if_pos c5]
  refine h.of rfl rfl rfl rfl ?_
  show ∀ u : Nat, u < 16 → iv 0 4 (uO (m_X7_add (sU st) x1 x2 x3).2 u) ∧ iv 0 4 (uP (m_X7_add (sU st) x1 x2 x3).2 u)
  unfold m_X7_add
  rw [if_pos c5]
  exact give_iv (h := x2) h.2.2.2 (iv_hold c2)
theorem sg_lend (h : SG T st) : SG (T + 1) (m_X5_tryLend st x1 x2 x3).2 := by
  have h := h.up (T2 := T + 1) (by omega)
  unfold m_X5_tryLend
  by_cases c1 : m_X7_has (sU st) x1 = 0
  · rw [if_pos c1]; exact h
  rw [if_neg c1]
  by_cases c2 : m_X8_isHolder x2 = 0
  · rw [if_pos c2]; exact h
  rw [if_neg c2]
  by_cases c3 : m_X8_isTerm x3 = 0
  · rw [if_pos c3]; exact h
  rw [if_neg c3]
  by_cases c4 : m_X7_isFree (sU st) x1 = 0
  · rw [if_pos c4]; exact h
  rw [if_neg c4]
  by_cases c5 : uO (sU st) x1.toNatClampNeg = x2
  · rw [if_pos c5]; exact h
  rw [if_neg c5]
  refine h.of rfl rfl rfl rfl (fun u hu => ⟨(h.2.2.2 u hu).1, ?_⟩)
  show iv 0 4 (if u = x1.toNatClampNeg then x2 else uP (sU st) u)
  split
  · exact iv_hold c2
  · exact (h.2.2.2 u hu).2
theorem pay_U {a b x : Int32} : sU (m_X5_pay st a b x) = sU st := by
  unfold m_X5_pay
  repeat' split
  all_goals rfl
theorem pay_D {a b x : Int32} : sD (m_X5_pay st a b x) = sD st := by
  unfold m_X5_pay
  repeat' split
  all_goals rfl
theorem pay_C {a b x : Int32} : sC (m_X5_pay st a b x) = sC st := by
  unfold m_X5_pay
  repeat' split
  all_goals rfl
theorem sg_bring (h : SG T st) (ok : uOK (sU st)) : SG (T + 1) (m_X5_tryBring st x1).2 := by
  have h := h.up (T2 := T + 1) (by omega)
  unfold m_X5_tryBring
  by_cases c1 : m_X7_has (sU st) x1 = 0
  · rw [if_pos c1]; exact h
  rw [if_neg c1]
  by_cases c2 : m_X7_isFree (sU st) x1 = 0
  case neg => rw [if_neg c2]; exact h
  rw [if_pos c2]
  have lt := has_lt c1 ok
  have g := h.2.2.2 _ lt
  have p := h.pay (b := uO (sU st) x1.toNatClampNeg) (x := m_X5_feesFor st x1 0) (holdI g.2)
  refine p.of rfl rfl rfl rfl ?_
  show ∀ u : Nat, u < 16 → iv 0 4 (uO (m_X7_giveTo _ _ _) u) ∧ iv 0 4 (uP (m_X7_giveTo _ _ _) u)
  rw [pay_U]
  exact give_iv h.2.2.2 g.1
theorem sg_exchange (h : SG T st) (ok : uOK (sU st)) : SG (T + 1) (m_X5_tryExchange st x1 x2).2 := by
  have h := h.up (T2 := T + 1) (by omega)
  unfold m_X5_tryExchange
  by_cases c1 : m_X7_has (sU st) x1 = 0
  · rw [if_pos c1]; exact h
  rw [if_neg c1]
  by_cases c2 : m_X7_has (sU st) x2 = 0
  · rw [if_pos c2]; exact h
  rw [if_neg c2]
  by_cases c3 : m_X7_isFreeCore (sU st) x1 = 0
  · rw [if_pos c3]; exact h
  rw [if_neg c3]
  by_cases c4 : m_X7_isGoodSpare (sU st) x2 = 0
  · rw [if_pos c4]; exact h
  rw [if_neg c4]
  by_cases c5 : uK (sU st) x1.toNatClampNeg = uK (sU st) x2.toNatClampNeg
  case neg => rw [if_neg c5]; exact h
  rw [if_pos c5]
  have lt := has_lt c1 ok
  have g := h.2.2.2 _ lt
  have s2 : SG (T + 1) (sU' st (m_X7_giveTo (m_X7_giveTo (sU st) x1 4) x2 (uO (sU st) x1.toNatClampNeg))) := h.of rfl rfl rfl rfl (give_iv (give_iv h.2.2.2 iv_4) g.1)
  have p := s2.pay (a := uO (sU st) x1.toNatClampNeg) (b := 4) (x := m_X5_priceForCore st x1) (holdI g.1)
  exact p.of rfl rfl rfl rfl p.2.2.2
theorem add_4 {co : CoT} {a k d : Int32} (n4 : ¬ a.toNatClampNeg = 4) : cC (m_X0_add co a k d) 4 = cC co 4 := by
  unfold m_X0_add
  split
  · rfl
  · show (if 4 = a.toNatClampNeg then _ else cC co 4) = cC co 4
    rw [if_neg (fun e => n4 e.symm)]
theorem n4_of {x : Int32} (h : iv 0 4 x) (c : ¬ x = 4) : ¬ x.toNatClampNeg = 4 := by
  intro e
  refine c (i32_eq ?_)
  have := h.1
  rw [tnc_d] at e
  rw [show (4 : Int32).toInt = 4 by decide]
  omega
theorem sg_advance (h : SG T st) : SG (T + 1) (m_X5_tryAdvance st x1 x2 x3).2 := by
  have h := h.up (T2 := T + 1) (by omega)
  unfold m_X5_tryAdvance
  by_cases c1 : m_X8_isHolder x1 = 0
  · rw [if_pos c1]; exact h
  rw [if_neg c1]
  by_cases c2 : m_X7_has (sU st) x2 = 0
  · rw [if_pos c2]; exact h
  rw [if_neg c2]
  by_cases c3 : m_X8_isTerm x3 = 0
  · rw [if_pos c3]; exact h
  rw [if_neg c3]
  by_cases c4 : x1 = 4
  · rw [if_pos c4]; exact h
  rw [if_neg c4]
  by_cases c5 : m_X0_hasRoom (sC st) x1 = 0
  · rw [if_pos c5]; exact h
  rw [if_neg c5]
  by_cases c6 : m_X7_isGoodSpare (sU st) x2 = 0
  · rw [if_pos c6]; exact h
  rw [if_neg c6]
  refine h.of rfl rfl ?_ rfl (give_iv h.2.2.2 (iv_hold c1))
  show cC (m_X0_add (sC st) x1 _ _) 4 = _
  exact add_4 (n4_of (iv_hold c1) c4)
theorem rem_4L {a k : Int32} (n4 : ¬ a.toNatClampNeg = 4) : ∀ (nF : Nat) (co : CoT) (i : Int32), cC (m_X0_remove_L12 nF co a k i) 4 = cC co 4 := by
  intro nF
  induction nF with
  | zero => intro co i; rfl
  | succ nF ih =>
    intro co i
    rw [m_X0_remove_L12]
    split
    · show (if 4 = a.toNatClampNeg then _ else cC co 4) = cC co 4
      rw [if_neg (fun e => n4 e.symm)]
    · rw [ih]
      rfl
theorem rem_4 {co : CoT} {a k : Int32} (n4 : ¬ a.toNatClampNeg = 4) : cC (m_X0_remove co a k) 4 = cC co 4 := by
  unfold m_X0_remove
  split
  · rfl
  · exact rem_4L n4 _ _ _
theorem sg_deliver (h : SG T st) (ok : uOK (sU st)) : SG (T + 1) (m_X5_tryDeliver st x1).2 := by
  have h := h.up (T2 := T + 1) (by omega)
  unfold m_X5_tryDeliver
  by_cases c1 : m_X7_has (sU st) x1 = 0
  · rw [if_pos c1]; exact h
  rw [if_neg c1]
  by_cases c2 : m_X7_isFreeCore (sU st) x1 = 0
  · rw [if_pos c2]; exact h
  rw [if_neg c2]
  by_cases c3 : m_X0_oldest (sC st) (uO (sU st) x1.toNatClampNeg) (uK (sU st) x1.toNatClampNeg) = -1
  · rw [if_pos c3]; exact h
  rw [if_neg c3]
  have g := h.2.2.2 _ (has_lt c1 ok)
  have n4 : ¬ uO (sU st) x1.toNatClampNeg = 4 := fun e => c2 (by
    unfold m_X7_isFreeCore
    split
    · rfl
    · first | rfl | rw [if_pos e])
  have s2 : SG (T + 1) (sC' (sU' st (m_X7_giveTo (sU st) x1 4)) (m_X0_remove (sC st) (uO (sU st) x1.toNatClampNeg) (m_X0_oldest (sC st) (uO (sU st) x1.toNatClampNeg) (uK (sU st) x1.toNatClampNeg)))) := h.of rfl rfl (rem_4 (n4_of g.1 n4)) rfl (give_iv h.2.2.2 iv_4)
  exact s2.pay (holdI g.1)
theorem sg_days (h : SG T st) : SG (T + 1) (m_X5_tryDays st x1).2 := by
  have h := h.up (T2 := T + 1) (by omega)
  unfold m_X5_tryDays
  repeat' split
  · exact h
  · exact h.of rfl rfl rfl rfl h.2.2.2
  · exact h
theorem sg_set (h : SG T st) : SG (T + 1) (m_X5_trySet st x1 x2).2 := by
  have h := h.up (T2 := T + 1) (by omega)
  unfold m_X5_trySet
  repeat' split
  all_goals first | exact h | exact h.of rfl rfl rfl rfl h.2.2.2
theorem sg_buy (h : SG T st) (ok : uOK (sU st)) : SG (T + 1) (m_X5_tryBuy st x1 x2).2 := by
  have h := h.up (T2 := T + 1) (by omega)
  unfold m_X5_tryBuy
  by_cases c1 : m_X7_has (sU st) x1 = 0
  · rw [if_pos c1]; exact h
  rw [if_neg c1]
  by_cases c2 : m_X8_isPart x2 = 0
  · rw [if_pos c2]; exact h
  rw [if_neg c2]
  by_cases c3 : m_X7_hasPart (sU st) x1 x2 = 0
  case neg => rw [if_neg c3]; exact h
  rw [if_pos c3]
  have g := h.2.2.2 _ (has_lt c1 ok)
  have s2 : SG (T + 1) (sU' st (uQ' (sU st) (upd (uQ (sU st)) x1.toNatClampNeg (uQ (sU st) x1.toNatClampNeg ||| ((1 : Int32) <<< (x2 &&& 31)))))) := h.of rfl rfl rfl rfl h.2.2.2
  exact s2.pay (holdI g.1)
end SGA
