def m_X9_whyNotSettle (r : (Nat → Int32)) (x1 : Int32) (x2 : Int32) (x3 : Int32) (x4 : Int32) : Int32 := if (m_X9_isHolder x1) = (0 : Int32) then (1 : Int32) else if (m_X9_isHolder x2) = (0 : Int32) then (1 : Int32) else if (m_X9_isKind x3) = (0 : Int32) then (1 : Int32) else if (m_X9_isPart x4) = (0 : Int32) then (1 : Int32) else if (r (m_X9_owedAt x1 x2 x3 x4).toNatClampNeg) = (0 : Int32) then (2 : Int32) else (0 : Int32)
theorem wn_nn_Settle (r : Nat → Int32) (x1 x2 x3 x4 : Int32) : 0 ≤ (m_X9_whyNotSettle r x1 x2 x3 x4).toInt := by
  unfold m_X9_whyNotSettle
  repeat' split
  all_goals decide
theorem wn_Settle_0 {r : Nat → Int32} {x1 x2 x3 x4 : Int32} (hR : rOK r) (c : m_X9_whyNotSettle r x1 x2 x3 x4 = 0) : iv 0 4 x1 := by
  unfold m_X9_whyNotSettle at c
  split at c
  · exact absurd c (by decide)
  rename_i h0
  exact iv_isHolder h0
theorem wn_Settle_1 {r : Nat → Int32} {x1 x2 x3 x4 : Int32} (hR : rOK r) (c : m_X9_whyNotSettle r x1 x2 x3 x4 = 0) : iv 0 4 x2 := by
  unfold m_X9_whyNotSettle at c
  split at c
  · exact absurd c (by decide)
  rename_i h0
  split at c
  · exact absurd c (by decide)
  rename_i h1
  exact iv_isHolder h1
theorem wn_Settle_2 {r : Nat → Int32} {x1 x2 x3 x4 : Int32} (hR : rOK r) (c : m_X9_whyNotSettle r x1 x2 x3 x4 = 0) : iv 0 2 x3 := by
  unfold m_X9_whyNotSettle at c
  split at c
  · exact absurd c (by decide)
  rename_i h0
  split at c
  · exact absurd c (by decide)
  rename_i h1
  split at c
  · exact absurd c (by decide)
  rename_i h2
  exact iv_isKind h2
theorem wn_Settle_3 {r : Nat → Int32} {x1 x2 x3 x4 : Int32} (hR : rOK r) (c : m_X9_whyNotSettle r x1 x2 x3 x4 = 0) : iv 0 2 x4 := by
  unfold m_X9_whyNotSettle at c
  split at c
  · exact absurd c (by decide)
  rename_i h0
  split at c
  · exact absurd c (by decide)
  rename_i h1
  split at c
  · exact absurd c (by decide)
  rename_i h2
  split at c
  · exact absurd c (by decide)
  rename_i h3
  exact iv_isPart h3
def m_X9_settleOn (r : (Nat → Int32)) (x1 : Int32) (x2 : Int32) (x3 : Int32) (x4 : Int32) : Int32 × (Nat → Int32) := ((m_X9_pays (upd r (m_X9_owedAt x1 x2 x3 x4).toNatClampNeg ((r (m_X9_owedAt x1 x2 x3 x4).toNatClampNeg) - (1 : Int32))) x1 x2 ((upd r (m_X9_owedAt x1 x2 x3 x4).toNatClampNeg ((r (m_X9_owedAt x1 x2 x3 x4).toNatClampNeg) - (1 : Int32))) (4 : Int32).toNatClampNeg)) (m_X9_owedAt x1 x2 x3 x4).toNatClampNeg, m_X9_pays (upd r (m_X9_owedAt x1 x2 x3 x4).toNatClampNeg ((r (m_X9_owedAt x1 x2 x3 x4).toNatClampNeg) - (1 : Int32))) x1 x2 ((upd r (m_X9_owedAt x1 x2 x3 x4).toNatClampNeg ((r (m_X9_owedAt x1 x2 x3 x4).toNatClampNeg) - (1 : Int32))) (4 : Int32).toNatClampNeg))
def m_X9_whyNotBuy (r : (Nat → Int32)) (x1 : Int32) (x2 : Int32) : Int32 := if (m_X9_isUnit r x1) = (0 : Int32) then (1 : Int32) else if (m_X9_isPart x2) = (0 : Int32) then (1 : Int32) else if (((m_X9_of r x1 (3 : Int32)) >>> (x2 &&& (31 : Int32))) &&& (1 : Int32)) = (1 : Int32) then (2 : Int32) else (0 : Int32)
theorem wn_nn_Buy (r : Nat → Int32) (x1 x2 : Int32) : 0 ≤ (m_X9_whyNotBuy r x1 x2).toInt := by
  unfold m_X9_whyNotBuy
  repeat' split
  all_goals decide
theorem wn_Buy_0 {r : Nat → Int32} {x1 x2 : Int32} (hR : rOK r) (c : m_X9_whyNotBuy r x1 x2 = 0) : iv 0 15 x1 := by
  unfold m_X9_whyNotBuy at c
  split at c
  · exact absurd c (by decide)
  rename_i h0
  exact iv_isUnit hR h0
theorem wn_Buy_1 {r : Nat → Int32} {x1 x2 : Int32} (hR : rOK r) (c : m_X9_whyNotBuy r x1 x2 = 0) : iv 0 2 x2 := by
  unfold m_X9_whyNotBuy at c
  split at c
  · exact absurd c (by decide)
  rename_i h0
  split at c
  · exact absurd c (by decide)
  rename_i h1
  exact iv_isPart h1
def m_X9_buyOn (r : (Nat → Int32)) (x1 : Int32) (x2 : Int32) : Int32 × (Nat → Int32) := (m_X9_of (upd (upd (m_X9_lay r x1 (3 : Int32) ((m_X9_of r x1 (3 : Int32)) ||| ((1 : Int32) <<< (x2 &&& (31 : Int32))))) ((88 : Int32) + (m_X9_of (m_X9_lay r x1 (3 : Int32) ((m_X9_of r x1 (3 : Int32)) ||| ((1 : Int32) <<< (x2 &&& (31 : Int32))))) x1 (1 : Int32))).toNatClampNeg (((m_X9_lay r x1 (3 : Int32) ((m_X9_of r x1 (3 : Int32)) ||| ((1 : Int32) <<< (x2 &&& (31 : Int32))))) ((88 : Int32) + (m_X9_of (m_X9_lay r x1 (3 : Int32) ((m_X9_of r x1 (3 : Int32)) ||| ((1 : Int32) <<< (x2 &&& (31 : Int32))))) x1 (1 : Int32))).toNatClampNeg) - ((m_X9_lay r x1 (3 : Int32) ((m_X9_of r x1 (3 : Int32)) ||| ((1 : Int32) <<< (x2 &&& (31 : Int32))))) (4 : Int32).toNatClampNeg))) (5 : Int32).toNatClampNeg (((upd (m_X9_lay r x1 (3 : Int32) ((m_X9_of r x1 (3 : Int32)) ||| ((1 : Int32) <<< (x2 &&& (31 : Int32))))) ((88 : Int32) + (m_X9_of (m_X9_lay r x1 (3 : Int32) ((m_X9_of r x1 (3 : Int32)) ||| ((1 : Int32) <<< (x2 &&& (31 : Int32))))) x1 (1 : Int32))).toNatClampNeg (((m_X9_lay r x1 (3 : Int32) ((m_X9_of r x1 (3 : Int32)) ||| ((1 : Int32) <<< (x2 &&& (31 : Int32))))) ((88 : Int32) + (m_X9_of (m_X9_lay r x1 (3 : Int32) ((m_X9_of r x1 (3 : Int32)) ||| ((1 : Int32) <<< (x2 &&& (31 : Int32))))) x1 (1 : Int32))).toNatClampNeg) - ((m_X9_lay r x1 (3 : Int32) ((m_X9_of r x1 (3 : Int32)) ||| ((1 : Int32) <<< (x2 &&& (31 : Int32))))) (4 : Int32).toNatClampNeg))) (5 : Int32).toNatClampNeg) + ((upd (m_X9_lay r x1 (3 : Int32) ((m_X9_of r x1 (3 : Int32)) ||| ((1 : Int32) <<< (x2 &&& (31 : Int32))))) ((88 : Int32) + (m_X9_of (m_X9_lay r x1 (3 : Int32) ((m_X9_of r x1 (3 : Int32)) ||| ((1 : Int32) <<< (x2 &&& (31 : Int32))))) x1 (1 : Int32))).toNatClampNeg (((m_X9_lay r x1 (3 : Int32) ((m_X9_of r x1 (3 : Int32)) ||| ((1 : Int32) <<< (x2 &&& (31 : Int32))))) ((88 : Int32) + (m_X9_of (m_X9_lay r x1 (3 : Int32) ((m_X9_of r x1 (3 : Int32)) ||| ((1 : Int32) <<< (x2 &&& (31 : Int32))))) x1 (1 : Int32))).toNatClampNeg) - ((m_X9_lay r x1 (3 : Int32) ((m_X9_of r x1 (3 : Int32)) ||| ((1 : Int32) <<< (x2 &&& (31 : Int32))))) (4 : Int32).toNatClampNeg))) (4 : Int32).toNatClampNeg))) x1 (3 : Int32), upd (upd (m_X9_lay r x1 (3 : Int32) ((m_X9_of r x1 (3 : Int32)) ||| ((1 : Int32) <<< (x2 &&& (31 : Int32))))) ((88 : Int32) + (m_X9_of (m_X9_lay r x1 (3 : Int32) ((m_X9_of r x1 (3 : Int32)) ||| ((1 : Int32) <<< (x2 &&& (31 : Int32))))) x1 (1 : Int32))).toNatClampNeg (((m_X9_lay r x1 (3 : Int32) ((m_X9_of r x1 (3 : Int32)) ||| ((1 : Int32) <<< (x2 &&& (31 : Int32))))) ((88 : Int32) + (m_X9_of (m_X9_lay r x1 (3 : Int32) ((m_X9_of r x1 (3 : Int32)) ||| ((1 : Int32) <<< (x2 &&& (31 : Int32))))) x1 (1 : Int32))).toNatClampNeg) - ((m_X9_lay r x1 (3 : Int32) ((m_X9_of r x1 (3 : Int32)) ||| ((1 : Int32) <<< (x2 &&& (31 : Int32))))) (4 : Int32).toNatClampNeg))) (5 : Int32).toNatClampNeg (((upd (m_X9_lay r x1 (3 : Int32) ((m_X9_of r x1 (3 : Int32)) ||| ((1 : Int32) <<< (x2 &&& (31 : Int32))))) ((88 : Int32) + (m_X9_of (m_X9_lay r x1 (3 : Int32) ((m_X9_of r x1 (3 : Int32)) ||| ((1 : Int32) <<< (x2 &&& (31 : Int32))))) x1 (1 : Int32))).toNatClampNeg (((m_X9_lay r x1 (3 : Int32) ((m_X9_of r x1 (3 : Int32)) ||| ((1 : Int32) <<< (x2 &&& (31 : Int32))))) ((88 : Int32) + (m_X9_of (m_X9_lay r x1 (3 : Int32) ((m_X9_of r x1 (3 : Int32)) ||| ((1 : Int32) <<< (x2 &&& (31 : Int32))))) x1 (1 : Int32))).toNatClampNeg) - ((m_X9_lay r x1 (3 : Int32) ((m_X9_of r x1 (3 : Int32)) ||| ((1 : Int32) <<< (x2 &&& (31 : Int32))))) (4 : Int32).toNatClampNeg))) (5 : Int32).toNatClampNeg) + ((upd (m_X9_lay r x1 (3 : Int32) ((m_X9_of r x1 (3 : Int32)) ||| ((1 : Int32) <<< (x2 &&& (31 : Int32))))) ((88 : Int32) + (m_X9_of (m_X9_lay r x1 (3 : Int32) ((m_X9_of r x1 (3 : Int32)) ||| ((1 : Int32) <<< (x2 &&& (31 : Int32))))) x1 (1 : Int32))).toNatClampNeg (((m_X9_lay r x1 (3 : Int32) ((m_X9_of r x1 (3 : Int32)) ||| ((1 : Int32) <<< (x2 &&& (31 : Int32))))) ((88 : Int32) + (m_X9_of (m_X9_lay r x1 (3 : Int32) ((m_X9_of r x1 (3 : Int32)) ||| ((1 : Int32) <<< (x2 &&& (31 : Int32))))) x1 (1 : Int32))).toNatClampNeg) - ((m_X9_lay r x1 (3 : Int32) ((m_X9_of r x1 (3 : Int32)) ||| ((1 : Int32) <<< (x2 &&& (31 : Int32))))) (4 : Int32).toNatClampNeg))) (4 : Int32).toNatClampNeg)))
def m_X9_daysOn (r : (Nat → Int32)) (x1 : Int32) : Int32 × (Nat → Int32) := ((upd r (0 : Int32).toNatClampNeg ((r (0 : Int32).toNatClampNeg) + x1)) (0 : Int32).toNatClampNeg, upd r (0 : Int32).toNatClampNeg ((r (0 : Int32).toNatClampNeg) + x1))
