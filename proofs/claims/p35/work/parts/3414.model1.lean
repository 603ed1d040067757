def m_X9_begin_L2 : Nat → (Nat → Int32) → Int32 → (Nat → Int32)
  | 0, rr, _ => rr
  | nF + 1, rr, k => if (383 : Int32) ≤ k then upd (upd (upd rr (2 : Int32).toNatClampNeg (5 : Int32)) (3 : Int32).toNatClampNeg (100 : Int32)) (4 : Int32).toNatClampNeg (20 : Int32) else m_X9_begin_L2 nF (upd rr k.toNatClampNeg (0 : Int32)) (k + (1 : Int32))
def m_X9_begin (r : (Nat → Int32)) : (Nat → Int32) := m_X9_begin_L2 1000 r (0 : Int32)
theorem cp_iv {x : Int32} {l h : Int} {n : Nat} (a : iv l h x) (e : 0 ≤ l ∧ h + 383 ≤ n ∧ n ≤ 5362) : 0 ≤ x.toInt ∧ x.toInt + 383 ≤ n ∧ n ≤ 5362 := by
  have := a.1
  have := a.2
  omega
theorem cp_b {x k : Int32} {n : Nat} (h : 0 ≤ x.toInt ∧ x.toInt + 383 ≤ n ∧ n ≤ 5362) (h0 : 0 ≤ k.toInt) (c : ¬ (383 : Int32) ≤ k) : vp_in (x + k) n := by
  rw [i32_le] at c
  have : (383 : Int32).toInt = 383 := by decide
  have e := i32_add (x := x) (y := k) (by omega) (by omega)
  exact bd_of (by omega) (by omega)
def m_X9_usable_L4 : Nat → (Nat → Int32) → Int32 → Int32 → Int32
  | 0, _, _, _ => 0
  | nF + 1, r, n, u => if (r (1 : Int32).toNatClampNeg) ≤ u then n else if (m_X9_of r u (3 : Int32)) = (7 : Int32) then m_X9_usable_L4 nF r (n + (1 : Int32)) (u + (1 : Int32)) else m_X9_usable_L4 nF r (n + (0 : Int32)) (u + (1 : Int32))
def m_X9_usable (r : (Nat → Int32)) : Int32 := m_X9_usable_L4 100 r (0 : Int32) (0 : Int32)
def m_X9_coresOwed_L4 : Nat → (Nat → Int32) → Int32 → Int32 → Int32
  | 0, _, _, _ => 0
  | nF + 1, r, n, h => if (5 : Int32) ≤ h then n else m_X9_coresOwed_L4 nF r (n + (r (m_X9_coresAt h).toNatClampNeg)) (h + (1 : Int32))
def m_X9_coresOwed (r : (Nat → Int32)) : Int32 := m_X9_coresOwed_L4 100 r (0 : Int32) (0 : Int32)
def m_X9_isAt (r : (Nat → Int32)) (x1 : Int32) (x2 : Int32) (x3 : Int32) : Int32 := if (m_X9_of r x1 (2 : Int32)) = x2 then if (m_X9_of r x1 (0 : Int32)) = x3 then (1 : Int32) else (0 : Int32) else (0 : Int32)
