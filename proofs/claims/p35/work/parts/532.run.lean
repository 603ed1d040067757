/-! scripts run, turns simulated -/
theorem i64_hi (x : Int64) : x.toInt < 9223372036854775808 := Int64.toInt_lt x
theorem i64_lo (x : Int64) : -9223372036854775808 ≤ x.toInt := Int64.le_toInt x
theorem bmod64 {a : Int} (h1 : -9223372036854775808 ≤ a) (h2 : a < 9223372036854775808) : a.bmod 18446744073709551616 = a := by
  rw [Int.bmod_def]; omega
theorem i64_div {x c : Int64} {C : Int} (hx : 0 ≤ x.toInt) (hc : c.toInt = C) (h : 0 < C) : (x / c).toInt = x.toInt / C := by
  rw [Int64.toInt_div, hc, Int.tdiv_eq_ediv_of_nonneg hx]
  have h1 := i64_hi x
  have h2 : x.toInt / C ≤ x.toInt := Int.ediv_le_self _ hx
  have h3 : 0 ≤ x.toInt / C := Int.ediv_nonneg hx (Int.le_of_lt h)
  exact bmod64 (by omega) (by omega)
theorem i64_mod {x c : Int64} {C : Int} (hx : 0 ≤ x.toInt) (hc : c.toInt = C) (h : 0 < C) : (x - (x / c) * c).toInt = x.toInt % C := by
  have d := i64_div hx hc h
  have h1 := i64_hi x
  have h3 : 0 ≤ x.toInt / C := Int.ediv_nonneg hx (Int.le_of_lt h)
  have h4 : x.toInt / C * C ≤ x.toInt := Int.ediv_mul_le _ (Int.ne_of_gt h)
  have h6 : 0 ≤ x.toInt / C * C := Int.mul_nonneg h3 (Int.le_of_lt h)
  have m : ((x / c) * c).toInt = x.toInt / C * C := by
    rw [Int64.toInt_mul, d, hc]
    exact bmod64 (by omega) (by omega)
  rw [Int64.toInt_sub, m, Int.emod_def, Int.mul_comm]
  exact bmod64 (by rw [Int.mul_comm] at h4 h6; omega) (by rw [Int.mul_comm] at h4 h6; omega)
theorem k6 : (1000000 : Int64).toInt = 1000000 := by decide
theorem k12 : (1000000000000 : Int64).toInt = 1000000000000 := by decide
/-- the group at a place, as a number -/
theorem grp_val {y : Int64} (hy : 0 ≤ y.toInt) : (y - (y / 1000000) * 1000000).toInt32.toInt = y.toInt % 1000000 := by
  have m := i64_mod hy k6 (by decide)
  rw [Int64.toInt_toInt32, m]
  exact bmod_of (by omega) (by omega)
theorem grp0 (s : Int64) : m_X3_group s 0 = (s - (s / 1000000) * 1000000).toInt32 := by
  unfold m_X3_group
  rw [m_X3_group_L5, if_pos (by decide)]
theorem grp1 (s : Int64) : m_X3_group s 1 = ((s / 1000000) - ((s / 1000000) / 1000000) * 1000000).toInt32 := by
  unfold m_X3_group
  rw [m_X3_group_L5, if_neg (by decide), if_neg (by decide), s01, m_X3_group_L5, if_pos (by decide)]
theorem grp2 (s : Int64) : m_X3_group s 2 = (((s / 1000000) / 1000000) - (((s / 1000000) / 1000000) / 1000000) * 1000000).toInt32 := by
  unfold m_X3_group
  rw [m_X3_group_L5, if_neg (by decide), if_neg (by decide), s01, m_X3_group_L5, if_neg (by decide), if_neg (by decide), s12, m_X3_group_L5, if_pos (by decide)]
theorem div1 (s : Int64) (h : 0 ≤ s.toInt) : s / 1 = s := by
  apply Int64.toInt_inj.mp
  rw [i64_div h (C := 1) (by decide) (by decide), Int.ediv_one]
theorem div12 (s : Int64) (h : 0 ≤ s.toInt) : (s / 1000000) / 1000000 = s / 1000000000000 := by
  apply Int64.toInt_inj.mp
  have a := i64_div h k6 (by decide)
  rw [i64_div (by rw [a]; omega) k6 (by decide), a, i64_div h k12 (by decide)]
  omega
/-- how much of a script is still to come: the reference's divisor -/
def PW : Nat → Int64
  | 0 => 1
  | 1 => 1000000
  | 2 => 1000000000000
  | _ => 1000000000000000000
theorem pwr_div : ∀ m : Nat, m < 3 → PW (m + 1) / 1000000 = PW m := by decide
/-- the group that comes next, for both the same -/
theorem grp_eq {s : Int64} (h : 0 ≤ s.toInt) : ∀ m : Nat, m < 3 → m_X3_group s (nI m) = ((s / PW m) - ((s / PW m) / 1000000) * 1000000).toInt32 ∧ 0 ≤ (m_X3_group s (nI m)).toInt ∧ (m_X3_group s (nI m)).toInt < 1000000 := by
  intro m hm
  have e : m = 0 ∨ m = 1 ∨ m = 2 := by omega
  have a := i64_div h k6 (by decide)
  have b := i64_div h k12 (by decide)
  rcases e with e | e | e
  · subst e
    have e1 : m_X3_group s (nI 0) = ((s / PW 0) - ((s / PW 0) / 1000000) * 1000000).toInt32 := by
      show m_X3_group s 0 = ((s / 1) - ((s / 1) / 1000000) * 1000000).toInt32
      rw [grp0, div1 s h]
    refine ⟨e1, ?_⟩
    rw [show m_X3_group s (nI 0) = _ from grp0 s, grp_val h]
    omega
  · subst e
    refine ⟨grp1 s, ?_⟩
    rw [show m_X3_group s (nI 1) = _ from grp1 s, grp_val (by rw [a]; omega)]
    omega
  · subst e
    have e1 : m_X3_group s (nI 2) = ((s / PW 2) - ((s / PW 2) / 1000000) * 1000000).toInt32 := by
      show m_X3_group s 2 = ((s / 1000000000000) - ((s / 1000000000000) / 1000000) * 1000000).toInt32
      rw [grp2, div12 s h]
    refine ⟨e1, ?_⟩
    rw [e1]
    show 0 ≤ ((s / 1000000000000) - ((s / 1000000000000) / 1000000) * 1000000).toInt32.toInt ∧ ((s / 1000000000000) - ((s / 1000000000000) / 1000000) * 1000000).toInt32.toInt < 1000000
    rw [grp_val (by rw [b]; omega)]
    omega
theorem script_L {x1 : Int32} {s : Int64} (h : 0 ≤ s.toInt) : ∀ (m nF : Nat) (z : SpT) (mo : MoT) (T : Int) (k : Int32), m ≤ 3 → m < nF → x1.toInt = k.toInt + m → 0 ≤ k.toInt → x1.toInt ≤ 3 → RS (pR z) (mW mo) → rOK (mW mo) → BD T (mW mo) → T + 99 * m ≤ 10000000 →
    (m_X8_runScript_L47 nF z x1 s k).1 = 0 ∧ (m_X8_runScript_L47 nF z x1 s k).2.1 = (m_X9_runScript_L86 nF mo x1 s (PW m) k).1 ∧ (∃ st, (m_X8_runScript_L47 nF z x1 s k).2.2 = pR' z st) ∧ ∃ W, (m_X9_runScript_L86 nF mo x1 s (PW m) k).2 = mW' mo W := by
  intro m
  induction m with
  | zero =>
    intro nF z mo T k h1 h2 h3 h4 h5 hR hr hB hT
    obtain ⟨nF, rfl⟩ : ∃ q, nF = q + 1 := ⟨nF - 1, by omega⟩
    have c : x1 ≤ k := by rw [i32_le]; omega
    rw [m_X8_runScript_L47, m_X9_runScript_L86, if_pos c, if_pos c]
    exact ⟨rfl, rfl, ⟨pR z, rfl⟩, mW mo, rfl⟩
  | succ m ih =>
    intro nF z mo T k h1 h2 h3 h4 h5 hR hr hB hT
    obtain ⟨nF, rfl⟩ : ∃ q, nF = q + 1 := ⟨nF - 1, by omega⟩
    have c : ¬ x1 ≤ k := by rw [i32_le]; omega
    have ei : (x1 - 1) - k = nI m := i32_eq (by
      have a : (x1 - 1).toInt = x1.toInt - 1 := by rw [i32_sub (by rw [i32_1]; omega) (by rw [i32_1]; omega), i32_1]
      have b : (nI m).toInt = m := by
        have : m = 0 ∨ m = 1 ∨ m = 2 := by omega
        rcases this with q | q | q <;> subst q <;> decide
      rw [i32_sub (by omega) (by omega), a, b]
      omega)
    obtain ⟨g1, g2, g3⟩ := grp_eq h m (by omega)
    have sp : (k + 1).toInt = k.toInt + 1 := by rw [i32_add (by rw [i32_1]; omega) (by rw [i32_1]; omega), i32_1]
    rw [m_X8_runScript_L47, m_X9_runScript_L86, if_neg c, if_neg c, ei, pwr_div m (by omega), ← g1]
    have S := scr_eq hR hr hB (by omega) g2 g3
    generalize m_X3_group s (nI m) = G at *
    generalize m_X3_succeeds (pR z) G = C at *
    generalize m_X9_command mo (G / 100000) (G - (G / 100000) * 100000) = M at *
    rcases S with ⟨s1, s2, W, s3⟩ | ⟨s1, s2, W, s3, s4, s5, s6⟩
    · rw [if_pos s1, if_pos s2]
      exact ⟨rfl, rfl, ⟨C.2, rfl⟩, W, s3⟩
    · rw [if_neg s1, if_neg s2, s3]
      obtain ⟨k1, k2, ⟨st, k3⟩, W2, k4⟩ := ih nF (pR' z C.2) (mW' mo W) (T + 99) (k + 1) (by omega) (by omega) (by omega) (by omega) h5 s4 s5 s6 (by omega)
      exact ⟨k1, k2, ⟨st, k3⟩, W2, k4⟩
theorem lim_eq (x1 : Int32) (mo : MoT) (s : Int64) (m : Nat) (h : m = 1 ∨ m = 2 ∨ m = 3) (hx : x1 = nI m) : m_X3_limit x1 = PW m ∧ (m_X9_runScript_L6 100 mo x1 s 1 0).1 = PW m := by
  subst hx
  unfold m_X3_limit
  rcases h with h | h | h
  · subst h
    constructor
    · rw [m_X3_limit_L4, if_neg (by decide), if_neg (by decide), m_X3_limit_L4, if_pos (by decide)]; decide
    · rw [m_X9_runScript_L6, if_neg (by decide), if_neg (by decide), m_X9_runScript_L6, if_pos (by decide)]; show (1 : Int64) * 1000000 = PW 1; decide
  · subst h
    constructor
    · rw [m_X3_limit_L4, if_neg (by decide), if_neg (by decide), m_X3_limit_L4, if_neg (by decide), if_neg (by decide), m_X3_limit_L4, if_pos (by decide)]; decide
    · rw [m_X9_runScript_L6, if_neg (by decide), if_neg (by decide), m_X9_runScript_L6, if_neg (by decide), if_neg (by decide), m_X9_runScript_L6, if_pos (by decide)]; show (1 : Int64) * 1000000 * 1000000 = PW 2; decide
  · subst h
    constructor
    · rw [m_X3_limit_L4, if_neg (by decide), if_neg (by decide), m_X3_limit_L4, if_neg (by decide), if_neg (by decide), m_X3_limit_L4, if_neg (by decide), if_neg (by decide), m_X3_limit_L4, if_pos (by decide)]; decide
    · rw [m_X9_runScript_L6, if_neg (by decide), if_neg (by decide), m_X9_runScript_L6, if_neg (by decide), if_neg (by decide), m_X9_runScript_L6, if_neg (by decide), if_neg (by decide), m_X9_runScript_L6, if_pos (by decide)]; show (1 : Int64) * 1000000 * 1000000 * 1000000 = PW 3; decide
theorem pwr_pos : ∀ m : Nat, m < 4 → 0 < (PW m).toInt ∧ (PW m - 1).toInt = (PW m).toInt - 1 := by decide
/-- runScript: the answers alike -/
theorem runScript_eq {z : SpT} {mo : MoT} {T : Int} {x1 : Int32} {s : Int64} (h : RS (pN z) (mN mo)) (hr : rOK (mN mo)) (hB : BD T (mN mo)) (hT : T ≤ 1000000) :
    (((m_X8_runScript z x1 s).1 = 2 ∧ (m_X9_runScript mo x1 s) = (0, mR' mo 1) ∧ (m_X8_runScript z x1 s).2.2 = z) ∨ ((m_X8_runScript z x1 s).1 = 0 ∧ (m_X8_runScript z x1 s).2.1 = (m_X9_runScript mo x1 s).1 ∧ (∃ st, (m_X8_runScript z x1 s).2.2 = pR' z st) ∧ ∃ W, (m_X9_runScript mo x1 s).2 = mW' (mR' mo 0) W)) := by
  have g1 : (1 : Int64).toInt = 1 := by decide
  have g3 : (3 : Int64).toInt = 3 := by decide
  have g0 : (0 : Int64).toInt = 0 := by decide
  unfold m_X8_runScript m_X9_runScript
  by_cases c1 : x1 < 1
  · rw [if_pos c1]
    rw [i32_lt, i32_1] at c1
    rw [if_pos (min_0 (by rw [i64_i]; omega))]
    exact Or.inl ⟨rfl, rfl, rfl⟩
  rw [if_neg c1]
  rw [i32_lt, i32_1] at c1
  by_cases c2 : (3 : Int32) < x1
  · rw [if_pos c2]
    rw [i32_lt, ii3] at c2
    rw [if_pos (min_0 (by rw [i64_i]; omega))]
    exact Or.inl ⟨rfl, rfl, rfl⟩
  rw [if_neg c2]
  rw [i32_lt, ii3] at c2
  rw [if_neg (show ¬ m_X9_in x1.toInt64 1 3 = 0 by rw [min_of (by rw [i64_i]; omega) (by rw [i64_i]; omega)]; decide)]
  obtain ⟨m, hm, hx⟩ : ∃ m : Nat, (m = 1 ∨ m = 2 ∨ m = 3) ∧ x1 = nI m := by
    have q : x1.toInt = 1 ∨ x1.toInt = 2 ∨ x1.toInt = 3 := by omega
    rcases q with q | q | q
    · exact ⟨1, Or.inl rfl, i32_eq (by rw [q]; decide)⟩
    · exact ⟨2, Or.inr (Or.inl rfl), i32_eq (by rw [q]; decide)⟩
    · exact ⟨3, Or.inr (Or.inr rfl), i32_eq (by rw [q]; decide)⟩
  obtain ⟨l1, l2⟩ := lim_eq x1 mo s m hm hx
  obtain ⟨p1, p2⟩ := pwr_pos m (by omega)
  rw [l1, l2]
  by_cases c3 : lg_cmp s 0 < 0
  · rw [if_pos c3]
    rw [lg_cmp_lt, Int64.lt_iff_toInt_lt, g0] at c3
    rw [if_pos (min_0 (by omega))]
    exact Or.inl ⟨rfl, rfl, rfl⟩
  rw [if_neg c3]
  rw [lg_cmp_lt, Int64.lt_iff_toInt_lt, g0] at c3
  by_cases c4 : lg_cmp s (PW m) < 0
  case neg =>
    rw [if_neg c4]
    rw [lg_cmp_lt, Int64.lt_iff_toInt_lt] at c4
    rw [if_pos (min_0 (by omega))]
    exact Or.inl ⟨rfl, rfl, rfl⟩
  rw [if_pos c4]
  rw [lg_cmp_lt, Int64.lt_iff_toInt_lt] at c4
  rw [if_neg (show ¬ m_X9_in s 0 (PW m - 1) = 0 by rw [min_of (by omega) (by omega)]; decide)]
  have xm : x1.toInt = m := by
    rw [hx]
    rcases hm with q | q | q <;> subst q <;> decide
  have b1 := h.cp (f := mW mo) hr
  have b2 := cp_rok (g := mW mo) hr
  have b3 := hB.cp (f := mW mo)
  generalize m_X9_copyState (mN mo) (mW mo) 0 0 = W0 at *
  generalize hn : 100 = nF
  obtain ⟨k1, k2, ⟨st, k3⟩, W, k4⟩ := script_L (x1 := x1) (s := s) (by omega) m nF (pR' z (pN z)) (mW' (mR' mo 0) W0) T 0 (by omega) (by omega) (by rw [xm, i32_0]; omega) (by decide) (by omega) b1 b2 b3 (by omega)
  exact Or.inr ⟨k1, k2, ⟨st, k3⟩, W, k4⟩
