/-! p35: how many can be made whole, by how many takings -/
/-- parts that a unit lacks, as the law counts them -/
def mg (q : Int32) : Int32 := (((3 : Int32) - (q &&& (1 : Int32))) - ((q >>> ((1 : Int32) &&& 31)) &&& (1 : Int32))) - ((q >>> ((2 : Int32) &&& 31)) &&& (1 : Int32))
theorem q7 {q : Int32} (h : iv 0 7 q) : ∃ n : Nat, n < 8 ∧ q = Int32.ofNat n := by
  have h1 := h.1
  have h2 := h.2
  exact ⟨q.toInt.toNat, by omega, i32_eq (by rw [Int32.toInt_ofNat_of_lt (by omega)]; omega)⟩
theorem mg_7 : ∀ n : Nat, n < 8 → iv 0 3 (mg (Int32.ofNat n)) ∧ ((mg (Int32.ofNat n) = 0) ↔ Int32.ofNat n = 7) ∧ 3 - m_bitCount (Int32.ofNat n &&& 7) = mg (Int32.ofNat n) := by unfold iv; decide +kernel
theorem mg_iv {q : Int32} (h : iv 0 7 q) : iv 0 3 (mg q) := by
  obtain ⟨n, h1, rfl⟩ := q7 h
  exact (mg_7 n h1).1
theorem mg_0 {q : Int32} (h : iv 0 7 q) : mg q = 0 ↔ q = 7 := by
  obtain ⟨n, h1, rfl⟩ := q7 h
  exact (mg_7 n h1).2.1
theorem mg_b {q : Int32} (h : iv 0 7 q) : 3 - m_bitCount (q &&& 7) = mg q := by
  obtain ⟨n, h1, rfl⟩ := q7 h
  exact (mg_7 n h1).2.2
/-- how many below n -/
def ct (p : Nat → Bool) : Nat → Nat
  | 0 => 0
  | n + 1 => ct p n + if p n then 1 else 0
theorem ct_s (p : Nat → Bool) (n : Nat) : ct p (n + 1) = ct p n + if p n then 1 else 0 := rfl
theorem ct_le (p : Nat → Bool) : ∀ n, ct p n ≤ n := by
  intro n
  induction n with
  | zero => exact Nat.le_refl _
  | succ n ih => rw [ct_s]; split <;> omega
theorem ct_sub {p q : Nat → Bool} : ∀ n, (∀ i, i < n → p i = true → q i = true) → ct p n ≤ ct q n := by
  intro n
  induction n with
  | zero => intro h; exact Nat.le_refl _
  | succ n ih =>
    intro h
    have k := ih (fun i hi => h i (by omega))
    have l := h n (by omega)
    rw [ct_s, ct_s]
    by_cases c : p n = true
    · rw [if_pos c, if_pos (l c)]; omega
    · rw [if_neg c]; split <;> omega
theorem ct_cg {p q : Nat → Bool} (n : Nat) (h : ∀ i, i < n → p i = q i) : ct p n = ct q n :=
  Nat.le_antisymm (ct_sub n (fun i hi k => by rw [← h i hi]; exact k)) (ct_sub n (fun i hi k => by rw [h i hi]; exact k))
theorem ct_pos {p : Nat → Bool} : ∀ n i, i < n → p i = true → 1 ≤ ct p n := by
  intro n
  induction n with
  | zero => intro i hi; omega
  | succ n ih =>
    intro i hi h
    rw [ct_s]
    by_cases c : i = n
    · subst c; rw [if_pos h]; omega
    · have := ih i (by omega) h
      omega
theorem ct_ex {p : Nat → Bool} : ∀ n, 1 ≤ ct p n → ∃ i, i < n ∧ p i = true := by
  intro n
  induction n with
  | zero => intro h; exact absurd (show (1 : Nat) ≤ 0 from h) (by decide)
  | succ n ih =>
    intro h
    by_cases c : p n = true
    · exact ⟨n, by omega, c⟩
    · rw [ct_s, if_neg c] at h
      obtain ⟨i, h1, h2⟩ := ih (by omega)
      exact ⟨i, by omega, h2⟩
theorem ct_lt {p q : Nat → Bool} : ∀ n, ct q n < ct p n → ∃ i, i < n ∧ p i = true ∧ ¬ q i = true := by
  intro n h
  apply Classical.byContradiction
  intro k
  have := ct_sub (p := p) (q := q) n (fun i hi hp => Classical.byContradiction (fun e => k ⟨i, hi, hp, e⟩))
  omega
/-- the unit i is of this kind at this holder -/
def kh (un : UnT) (h k : Int32) (i : Nat) : Bool := decide (uK un i = k ∧ uP un i = h)
def pP (un : UnT) (h k pt : Int32) (i : Nat) : Bool := decide ((uK un i = k ∧ uP un i = h) ∧ ¬ (uQ un i &&& ((1 : Int32) <<< (pt &&& (31 : Int32)))) = 0)
def pG (un : UnT) (h k g : Int32) (i : Nat) : Bool := decide ((uK un i = k ∧ uP un i = h) ∧ mg (uQ un i) = g)
def pU (un : UnT) (h k : Int32) (i : Nat) : Bool := decide ((uK un i = k ∧ uP un i = h) ∧ uQ un i = 7)
def uM (un : UnT) : Nat := (uN un).toInt.toNat
theorem kat {un : UnT} {u k h : Int32} (hh : ¬ m_X7_has un u = 0) : m_X7_isOfKindAt un u k h = if uK un u.toNatClampNeg = k ∧ uP un u.toNatClampNeg = h then 1 else 0 := by
  unfold m_X7_isOfKindAt
  rw [if_neg hh]
  by_cases c1 : uK un u.toNatClampNeg = k
  · rw [if_pos c1]
    by_cases c2 : uP un u.toNatClampNeg = h
    · rw [if_pos c2, if_pos ⟨c1, c2⟩]
    · rw [if_neg c2, if_neg (fun e => c2 e.2)]
  · rw [if_neg c1, if_neg (fun e => c1 e.1)]
section CNT
variable {un : UnT} {h k pt mo g : Int32}
theorem most_L (hu : uOK un) : ∀ (nF i : Nat) (n u : Int32), u.toInt = i → i ≤ uM un → uM un - i < nF → n.toInt = ct (pP un h k pt) i → (m_X7_mostCompleted_L18 nF un h k mo pt n u).1.toInt = ct (pP un h k pt) (uM un) := by
  intro nF
  induction nF with
  | zero => intro i n u h0 h1 h2; omega
  | succ nF ih =>
    intro i n u h0 h1 h2 e
    have b := hu.2
    have b0 := hu.1
    have um : uM un = (uN un).toInt.toNat := rfl
    have cl := ct_le (pP un h k pt) i
    rw [m_X7_mostCompleted_L18]
    by_cases c : uN un ≤ u
    · rw [if_pos c]
      rw [i32_le] at c
      rw [show uM un = i by omega]
      exact e
    · rw [if_neg c]
      have hh : ¬ m_X7_has un u = 0 := is_has (by rw [i32_le] at c; omega)
      rw [i32_le] at c
      have s1 : (u + 1).toInt = ((i + 1 : Nat) : Int) := by rw [i32_add (by rw [i32_1]; omega) (by rw [i32_1]; omega), i32_1]; omega
      have s2 : (n + 1).toInt = n.toInt + 1 := by rw [i32_add (by rw [i32_1]; omega) (by rw [i32_1]; omega), i32_1]
      have ui : u.toNatClampNeg = i := by rw [tnc_d]; omega
      rw [kat hh, ui]
      by_cases d1 : uK un i = k ∧ uP un i = h
      · rw [if_pos d1, if_neg (show ¬ (1 : Int32) = 0 by decide)]
        unfold m_X7_hasPart
        rw [if_neg hh, ui]
        by_cases d2 : (uQ un i &&& ((1 : Int32) <<< (pt &&& (31 : Int32)))) = 0
        · rw [if_pos d2, if_pos (show (0 : Int32) = 0 from rfl), i32_z]
          exact ih (i + 1) n (u + 1) s1 (by omega) (by omega) (by rw [ct_s, if_neg (by unfold pP; rw [decide_eq_true_eq]; exact fun q => q.2 d2)]; omega)
        · rw [if_neg d2, if_neg (show ¬ (1 : Int32) = 0 by decide)]
          exact ih (i + 1) (n + 1) (u + 1) s1 (by omega) (by omega) (by rw [ct_s, if_pos (by unfold pP; rw [decide_eq_true_eq]; exact ⟨d1, d2⟩)]; omega)
      · rw [if_neg d1, if_pos (show (0 : Int32) = 0 from rfl), i32_z]
        exact ih (i + 1) n (u + 1) s1 (by omega) (by omega) (by rw [ct_s, if_neg (by unfold pP; rw [decide_eq_true_eq]; exact fun q => d1 q.1)]; omega)
theorem gaps_L (hu : uOK un) (h7 : ∀ i, i < uM un → iv 0 7 (uQ un i)) : ∀ (nF i : Nat) (n u : Int32), u.toInt = i → i ≤ uM un → uM un - i < nF → n.toInt = ct (pG un h k g) i → (m_X7_withGaps_L6 nF un h k g n u).toInt = ct (pG un h k g) (uM un) := by
  intro nF
  induction nF with
  | zero => intro i n u h0 h1 h2; omega
  | succ nF ih =>
    intro i n u h0 h1 h2 e
    have b := hu.2
    have b0 := hu.1
    have um : uM un = (uN un).toInt.toNat := rfl
    have cl := ct_le (pG un h k g) i
    rw [m_X7_withGaps_L6]
    by_cases c : uN un ≤ u
    · rw [if_pos c]
      rw [i32_le] at c
      rw [show uM un = i by omega]
      exact e
    · rw [if_neg c]
      have hh : ¬ m_X7_has un u = 0 := is_has (by rw [i32_le] at c; omega)
      rw [i32_le] at c
      have s1 : (u + 1).toInt = ((i + 1 : Nat) : Int) := by rw [i32_add (by rw [i32_1]; omega) (by rw [i32_1]; omega), i32_1]; omega
      have s2 : (n + 1).toInt = n.toInt + 1 := by rw [i32_add (by rw [i32_1]; omega) (by rw [i32_1]; omega), i32_1]
      have ui : u.toNatClampNeg = i := by rw [tnc_d]; omega
      have ms : m_X7_missingParts un u = mg (uQ un i) := by
        unfold m_X7_missingParts
        rw [if_neg hh, ui, mg_b (h7 i (by omega))]
      rw [kat hh, ui, ms]
      by_cases d1 : uK un i = k ∧ uP un i = h
      · rw [if_pos d1, if_neg (show ¬ (1 : Int32) = 0 by decide)]
        by_cases d2 : mg (uQ un i) = g
        · rw [if_pos d2]
          exact ih (i + 1) (n + 1) (u + 1) s1 (by omega) (by omega) (by rw [ct_s, if_pos (by unfold pG; rw [decide_eq_true_eq]; exact ⟨d1, d2⟩)]; omega)
        · rw [if_neg d2, i32_z]
          exact ih (i + 1) n (u + 1) s1 (by omega) (by omega) (by rw [ct_s, if_neg (by unfold pG; rw [decide_eq_true_eq]; exact fun q => d2 q.2)]; omega)
      · rw [if_neg d1, if_pos (show (0 : Int32) = 0 from rfl), i32_z]
        exact ih (i + 1) n (u + 1) s1 (by omega) (by omega) (by rw [ct_s, if_neg (by unfold pG; rw [decide_eq_true_eq]; exact fun q => d1 q.1)]; omega)
theorem um16 (hu : uOK un) : uM un ≤ 16 ∧ ((uM un : Nat) : Int) = (uN un).toInt := by
  have := hu.1
  have := hu.2
  have um : uM un = (uN un).toInt.toNat := rfl
  omega
theorem most_c (hu : uOK un) (pt mo : Int32) : (m_X7_mostCompleted_L18 100 un h k mo pt 0 0).1.toInt = ct (pP un h k pt) (uM un) := most_L hu 100 0 0 0 (by decide) (by omega) (by have := (um16 hu).1; omega) (by rw [i32_0]; rfl)
theorem gaps_c (hu : uOK un) (h7 : ∀ i, i < uM un → iv 0 7 (uQ un i)) (g : Int32) : (m_X7_withGaps un h k g).toInt = ct (pG un h k g) (uM un) := gaps_L hu h7 100 0 0 0 (by decide) (by omega) (by have := (um16 hu).1; omega) (by rw [i32_0]; rfl)
theorem mn_c (a b : Int32) : ((if a < b then a else b).toInt = a.toInt ∧ a.toInt < b.toInt) ∨ ((if a < b then a else b).toInt = b.toInt ∧ b.toInt ≤ a.toInt) := by
  by_cases c : a < b
  · rw [if_pos c]; rw [i32_lt] at c; exact Or.inl ⟨rfl, c⟩
  · rw [if_neg c]; rw [i32_lt] at c; exact Or.inr ⟨rfl, by omega⟩
theorem most_u (j : Nat) (m : Int32) : m_X7_mostCompleted_L6 (j + 4) un h k m 0 = (if (m_X7_mostCompleted_L18 100 un h k (if (m_X7_mostCompleted_L18 100 un h k (if (m_X7_mostCompleted_L18 100 un h k m 0 0 0).1 < m then (m_X7_mostCompleted_L18 100 un h k m 0 0 0).1 else m) 1 0 0).1 < (if (m_X7_mostCompleted_L18 100 un h k m 0 0 0).1 < m then (m_X7_mostCompleted_L18 100 un h k m 0 0 0).1 else m) then (m_X7_mostCompleted_L18 100 un h k (if (m_X7_mostCompleted_L18 100 un h k m 0 0 0).1 < m then (m_X7_mostCompleted_L18 100 un h k m 0 0 0).1 else m) 1 0 0).1 else (if (m_X7_mostCompleted_L18 100 un h k m 0 0 0).1 < m then (m_X7_mostCompleted_L18 100 un h k m 0 0 0).1 else m)) 2 0 0).1 < (if (m_X7_mostCompleted_L18 100 un h k (if (m_X7_mostCompleted_L18 100 un h k m 0 0 0).1 < m then (m_X7_mostCompleted_L18 100 un h k m 0 0 0).1 else m) 1 0 0).1 < (if (m_X7_mostCompleted_L18 100 un h k m 0 0 0).1 < m then (m_X7_mostCompleted_L18 100 un h k m 0 0 0).1 else m) then (m_X7_mostCompleted_L18 100 un h k (if (m_X7_mostCompleted_L18 100 un h k m 0 0 0).1 < m then (m_X7_mostCompleted_L18 100 un h k m 0 0 0).1 else m) 1 0 0).1 else (if (m_X7_mostCompleted_L18 100 un h k m 0 0 0).1 < m then (m_X7_mostCompleted_L18 100 un h k m 0 0 0).1 else m)) then (m_X7_mostCompleted_L18 100 un h k (if (m_X7_mostCompleted_L18 100 un h k (if (m_X7_mostCompleted_L18 100 un h k m 0 0 0).1 < m then (m_X7_mostCompleted_L18 100 un h k m 0 0 0).1 else m) 1 0 0).1 < (if (m_X7_mostCompleted_L18 100 un h k m 0 0 0).1 < m then (m_X7_mostCompleted_L18 100 un h k m 0 0 0).1 else m) then (m_X7_mostCompleted_L18 100 un h k (if (m_X7_mostCompleted_L18 100 un h k m 0 0 0).1 < m then (m_X7_mostCompleted_L18 100 un h k m 0 0 0).1 else m) 1 0 0).1 else (if (m_X7_mostCompleted_L18 100 un h k m 0 0 0).1 < m then (m_X7_mostCompleted_L18 100 un h k m 0 0 0).1 else m)) 2 0 0).1 else (if (m_X7_mostCompleted_L18 100 un h k (if (m_X7_mostCompleted_L18 100 un h k m 0 0 0).1 < m then (m_X7_mostCompleted_L18 100 un h k m 0 0 0).1 else m) 1 0 0).1 < (if (m_X7_mostCompleted_L18 100 un h k m 0 0 0).1 < m then (m_X7_mostCompleted_L18 100 un h k m 0 0 0).1 else m) then (m_X7_mostCompleted_L18 100 un h k (if (m_X7_mostCompleted_L18 100 un h k m 0 0 0).1 < m then (m_X7_mostCompleted_L18 100 un h k m 0 0 0).1 else m) 1 0 0).1 else (if (m_X7_mostCompleted_L18 100 un h k m 0 0 0).1 < m then (m_X7_mostCompleted_L18 100 un h k m 0 0 0).1 else m))) := by
  rw [m_X7_mostCompleted_L6, if_neg (show ¬ (3 : Int32) ≤ 0 by decide), show (0 + 1 : Int32) = 1 from by decide]
  rw [m_X7_mostCompleted_L6, if_neg (show ¬ (3 : Int32) ≤ 1 by decide), show (1 + 1 : Int32) = 2 from by decide]
  rw [m_X7_mostCompleted_L6, if_neg (show ¬ (3 : Int32) ≤ 2 by decide), show (2 + 1 : Int32) = 3 from by decide]
  rw [m_X7_mostCompleted_L6, if_pos (show (3 : Int32) ≤ 3 by decide)]
/-- can: no more than of any part, and the least of them -/
theorem can_c (hu : uOK un) : ((m_X7_mostCompleted un h k).toInt ≤ ct (pP un h k 0) (uM un)) ∧ ((m_X7_mostCompleted un h k).toInt = 16 ∨ (m_X7_mostCompleted un h k).toInt = ct (pP un h k 0) (uM un) ∨ (m_X7_mostCompleted un h k).toInt = ct (pP un h k 1) (uM un) ∨ (m_X7_mostCompleted un h k).toInt = ct (pP un h k 2) (uM un)) ∧ (m_X7_mostCompleted un h k).toInt ≤ 16 := by
  have e : m_X7_mostCompleted un h k = _ := most_u (un := un) (h := h) (k := k) 96 16
  rw [e]
  have i16 : (16 : Int32).toInt = 16 := by decide
  have c0 := most_c (un := un) (h := h) (k := k) hu 0 16
  have d0 := mn_c (m_X7_mostCompleted_L18 100 un h k 16 0 0 0).1 16
  generalize (m_X7_mostCompleted_L18 100 un h k 16 0 0 0).1 = A0 at *
  generalize (if A0 < 16 then A0 else 16) = M0 at *
  have c1 := most_c (un := un) (h := h) (k := k) hu 1 M0
  have d1 := mn_c (m_X7_mostCompleted_L18 100 un h k M0 1 0 0).1 M0
  generalize (m_X7_mostCompleted_L18 100 un h k M0 1 0 0).1 = A1 at *
  generalize (if A1 < M0 then A1 else M0) = M1 at *
  have c2 := most_c (un := un) (h := h) (k := k) hu 2 M1
  have d2 := mn_c (m_X7_mostCompleted_L18 100 un h k M1 2 0 0).1 M1
  generalize (m_X7_mostCompleted_L18 100 un h k M1 2 0 0).1 = A2 at *
  generalize (if A2 < M1 then A2 else M1) = M2 at *
  omega
theorem tak_u (j : Nat) (a w0 w1 w2 w3 m0 m1 m2 m3 : Int32) (e0 : w0 = m_X7_withGaps un h k 0) (e1 : w1 = m_X7_withGaps un h k 1) (e2 : w2 = m_X7_withGaps un h k 2) (e3 : w3 = m_X7_withGaps un h k 3) (f0 : m0 = if w0 < a then w0 else a) (f1 : m1 = if w1 < a - m0 then w1 else a - m0) (f2 : m2 = if w2 < a - m0 - m1 then w2 else a - m0 - m1) (f3 : m3 = if w3 < a - m0 - m1 - m2 then w3 else a - m0 - m1 - m2) : m_X7_fewestTakings_L13 (j + 5) un h k a 0 0 = 0 + m0 * 0 + m1 * 1 + m2 * 2 + m3 * 3 := by
  rw [m_X7_fewestTakings_L13, if_neg (show ¬ (3 : Int32) < 0 by decide), show (0 + 1 : Int32) = 1 from by decide, ← e0, ← f0]
  rw [m_X7_fewestTakings_L13, if_neg (show ¬ (3 : Int32) < 1 by decide), show (1 + 1 : Int32) = 2 from by decide, ← e1, ← f1]
  rw [m_X7_fewestTakings_L13, if_neg (show ¬ (3 : Int32) < 2 by decide), show (2 + 1 : Int32) = 3 from by decide, ← e2, ← f2]
  rw [m_X7_fewestTakings_L13, if_neg (show ¬ (3 : Int32) < 3 by decide), show (3 + 1 : Int32) = 4 from by decide, ← e3, ← f3]
  rw [m_X7_fewestTakings_L13, if_pos (show (3 : Int32) < 4 by decide)]
end CNT
theorem tk_arith {a w0 w1 w2 w3 m0 m1 m2 m3 : Int32} (f0 : m0 = if w0 < a then w0 else a) (f1 : m1 = if w1 < a - m0 then w1 else a - m0) (f2 : m2 = if w2 < a - m0 - m1 then w2 else a - m0 - m1) (f3 : m3 = if w3 < a - m0 - m1 - m2 then w3 else a - m0 - m1 - m2) (ha : iv 0 16 a) (h0 : iv 0 16 w0) (h1 : iv 0 16 w1) (h2 : iv 0 16 w2) (h3 : iv 0 16 w3) (le : w0.toInt ≤ a.toInt) (ex : w0.toInt < a.toInt → 1 ≤ w1.toInt + w2.toInt + w3.toInt) :
    iv 0 48 (0 + m0 * 0 + m1 * 1 + m2 * 2 + m3 * 3) ∧ (0 + m0 * 0 + m1 * 1 + m2 * 2 + m3 * 3).toInt ≤ 3 * a.toInt ∧ (0 < (0 + m0 * 0 + m1 * 1 + m2 * 2 + m3 * 3).toInt ∨ a.toInt = w0.toInt) ∧ (w0.toInt < a.toInt ∨ (0 + m0 * 0 + m1 * 1 + m2 * 2 + m3 * 3).toInt = 0) ∧ (0 < (0 + m0 * 0 + m1 * 1 + m2 * 2 + m3 * 3).toInt → 1 ≤ w1.toInt + w2.toInt + w3.toInt) := by
  have a1 := ha.1
  have a2 := ha.2
  have b1 := h0.1
  have c1 := h1.1
  have d1 := h2.1
  have g1 := h3.1
  have k0 := mn_c w0 a
  rw [← f0] at k0
  have s0 : (a - m0).toInt = a.toInt - m0.toInt := i32_sub (by omega) (by omega)
  have k1 := mn_c w1 (a - m0)
  rw [← f1, s0] at k1
  have s1 : (a - m0 - m1).toInt = a.toInt - m0.toInt - m1.toInt := by rw [i32_sub (by omega) (by omega), s0]
  have k2 := mn_c w2 (a - m0 - m1)
  rw [← f2, s1] at k2
  have s2 : (a - m0 - m1 - m2).toInt = a.toInt - m0.toInt - m1.toInt - m2.toInt := by rw [i32_sub (by omega) (by omega), s1]
  have k3 := mn_c w3 (a - m0 - m1 - m2)
  rw [← f3, s2] at k3
  clear f0 f1 f2 f3 s0 s1 s2
  have e : (0 + m0 * 0 + m1 * 1 + m2 * 2 + m3 * 3 : Int32) = m1 + m2 * 2 + m3 * 3 := by grind
  rw [e]
  have t2 : (m2 * 2).toInt = m2.toInt * 2 := by rw [i32_mul (by rw [ii2]; omega) (by rw [ii2]; omega), ii2]
  have t3 : (m3 * 3).toInt = m3.toInt * 3 := by rw [i32_mul (by rw [ii3]; omega) (by rw [ii3]; omega), ii3]
  have t4 : (m1 + m2 * 2).toInt = m1.toInt + m2.toInt * 2 := by rw [i32_add (by omega) (by omega), t2]
  have t5 : (m1 + m2 * 2 + m3 * 3).toInt = m1.toInt + m2.toInt * 2 + m3.toInt * 3 := by rw [i32_add (by omega) (by omega), t3, t4]
  unfold iv
  rw [t5]
  omega
/-- what the law asks of can, takings and the usable ones -/
theorem tk_fact {un : UnT} (hu : uOK un) (h7 : ∀ i, i < uM un → iv 0 7 (uQ un i)) (h k : Int32) : iv 0 16 (m_X7_mostCompleted un h k) ∧ iv 0 48 (m_X7_fewestTakings un h k) ∧ ((ct (pU un h k) (uM un) : Nat) : Int) ≤ (m_X7_mostCompleted un h k).toInt ∧ (m_X7_fewestTakings un h k).toInt ≤ 3 * (m_X7_mostCompleted un h k).toInt ∧ (0 < (m_X7_fewestTakings un h k).toInt ∨ (m_X7_mostCompleted un h k).toInt = ct (pU un h k) (uM un)) ∧ (((ct (pU un h k) (uM un) : Nat) : Int) < (m_X7_mostCompleted un h k).toInt ∨ (m_X7_fewestTakings un h k).toInt = 0) ∧ (0 < (m_X7_fewestTakings un h k).toInt → ∃ i, i < uM un ∧ (uK un i = k ∧ uP un i = h) ∧ 0 < (mg (uQ un i)).toInt) := by
  have m16 := (um16 hu).1
  obtain ⟨c1, c2, c3⟩ := can_c (un := un) (h := h) (k := k) hu
  have bt : ∀ q : Int32, iv 0 7 q → q = 7 → ∀ pt : Int32, (pt = 0 ∨ pt = 1 ∨ pt = 2) → ¬ (q &&& ((1 : Int32) <<< (pt &&& (31 : Int32)))) = 0 := by
    intro q _ e pt hp
    subst e
    rcases hp with rfl | rfl | rfl <;> decide
  have uP9 : ∀ pt : Int32, (pt = 0 ∨ pt = 1 ∨ pt = 2) → ct (pU un h k) (uM un) ≤ ct (pP un h k pt) (uM un) := fun pt hp => ct_sub _ (fun i hi q => by
    unfold pU at q
    unfold pP
    rw [decide_eq_true_eq] at q ⊢
    exact ⟨q.1, bt _ (h7 i hi) q.2 pt hp⟩)
  have u0 := uP9 0 (Or.inl rfl)
  have u1 := uP9 1 (Or.inr (Or.inl rfl))
  have u2 := uP9 2 (Or.inr (Or.inr rfl))
  have ul := ct_le (pU un h k) (uM un)
  have e0 : ct (pG un h k 0) (uM un) = ct (pU un h k) (uM un) := ct_cg _ (fun i hi => by
    unfold pG pU
    rw [decide_eq_decide]
    have := mg_0 (h7 i hi)
    exact ⟨fun q => ⟨q.1, this.mp q.2⟩, fun q => ⟨q.1, this.mpr q.2⟩⟩)
  have g0 := gaps_c (h := h) (k := k) hu h7 0
  have g1 := gaps_c (h := h) (k := k) hu h7 1
  have g2 := gaps_c (h := h) (k := k) hu h7 2
  have g3 := gaps_c (h := h) (k := k) hu h7 3
  rw [e0] at g0
  have l1 := ct_le (pG un h k 1) (uM un)
  have l2 := ct_le (pG un h k 2) (uM un)
  have l3 := ct_le (pG un h k 3) (uM un)
  have ex : ((ct (pU un h k) (uM un) : Nat) : Int) < (m_X7_mostCompleted un h k).toInt → 1 ≤ ct (pG un h k 1) (uM un) + ct (pG un h k 2) (uM un) + ct (pG un h k 3) (uM un) := fun lt => by
    obtain ⟨i, i1, i2, i3⟩ := ct_lt (p := pP un h k 0) (q := pU un h k) (uM un) (by omega)
    unfold pP at i2
    unfold pU at i3
    rw [decide_eq_true_eq] at i2 i3
    have n7 : ¬ uQ un i = 7 := fun e => i3 ⟨i2.1, e⟩
    have m0 : ¬ mg (uQ un i) = 0 := fun e => n7 ((mg_0 (h7 i i1)).mp e)
    have mi := mg_iv (h7 i i1)
    have cs : mg (uQ un i) = 1 ∨ mg (uQ un i) = 2 ∨ mg (uQ un i) = 3 := by
      have a := mi.1
      have b := mi.2
      have : ¬ (mg (uQ un i)).toInt = 0 := fun e => m0 (i32_eq (by rw [e, i32_0]))
      rcases (show (mg (uQ un i)).toInt = 1 ∨ (mg (uQ un i)).toInt = 2 ∨ (mg (uQ un i)).toInt = 3 by omega) with e | e | e
      · exact Or.inl (i32_eq (by rw [e, i32_1]))
      · exact Or.inr (Or.inl (i32_eq (by rw [e, ii2])))
      · exact Or.inr (Or.inr (i32_eq (by rw [e, ii3])))
    rcases cs with e | e | e
    · have := ct_pos (p := pG un h k 1) (uM un) i i1 (by unfold pG; rw [decide_eq_true_eq]; exact ⟨i2.1, e⟩)
      omega
    · have := ct_pos (p := pG un h k 2) (uM un) i i1 (by unfold pG; rw [decide_eq_true_eq]; exact ⟨i2.1, e⟩)
      omega
    · have := ct_pos (p := pG un h k 3) (uM un) i i1 (by unfold pG; rw [decide_eq_true_eq]; exact ⟨i2.1, e⟩)
      omega
  have ive : ∀ {w : Int32} {c : Nat}, w.toInt = c → c ≤ 16 → iv 0 16 w := fun e l => ⟨by omega, by omega⟩
  have ivc : iv 0 16 (m_X7_mostCompleted un h k) := ⟨by omega, by omega⟩
  have fe : m_X7_fewestTakings un h k = _ := tak_u (un := un) (h := h) (k := k) 95 (m_X7_mostCompleted un h k) _ _ _ _ _ _ _ _ rfl rfl rfl rfl rfl rfl rfl rfl
  have ta := tk_arith (a := m_X7_mostCompleted un h k) (w0 := m_X7_withGaps un h k 0) (w1 := m_X7_withGaps un h k 1) (w2 := m_X7_withGaps un h k 2) (w3 := m_X7_withGaps un h k 3) rfl rfl rfl rfl ivc (ive g0 (by omega)) (ive g1 (by omega)) (ive g2 (by omega)) (ive g3 (by omega)) (by omega) (fun lt => by have := ex (by omega); omega)
  rw [← fe] at ta
  refine ⟨ivc, ta.1, by omega, ta.2.1, ?_, ?_, fun pos => ?_⟩
  · rw [← g0]; exact ta.2.2.1
  · rw [← g0]; exact ta.2.2.2.1
  · have := ta.2.2.2.2 pos
    have fin9 : ∀ g : Int32, 0 < g.toInt → 1 ≤ ct (pG un h k g) (uM un) → ∃ i, i < uM un ∧ (uK un i = k ∧ uP un i = h) ∧ 0 < (mg (uQ un i)).toInt := fun g hg hc => by
      obtain ⟨i, i1, i2⟩ := ct_ex _ hc
      unfold pG at i2
      rw [decide_eq_true_eq] at i2
      exact ⟨i, i1, i2.1, by rw [i2.2]; exact hg⟩
    rcases (show 1 ≤ ct (pG un h k 1) (uM un) ∨ 1 ≤ ct (pG un h k 2) (uM un) ∨ 1 ≤ ct (pG un h k 3) (uM un) by omega) with c | c | c
    · exact fin9 1 (by decide) c
    · exact fin9 2 (by decide) c
    · exact fin9 3 (by decide) c
