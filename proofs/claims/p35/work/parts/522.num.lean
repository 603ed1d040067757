/-! numbers in the text: class beside reference -/
def dgV (f : Nat → Int32) (s v w : Int32) : Int32 := v + (f s.toNatClampNeg - 48) * w
def dgB (f : Nat → Int32) (L s lo hi v w : Int32) : Bool := decide (¬ L ≤ s ∧ ¬ f s.toNatClampNeg < 48 ∧ f s.toNatClampNeg ≤ 57 ∧ ¬ hi < v + (f s.toNatClampNeg - 48) * w ∧ lo ≤ ((v + (f s.toNatClampNeg - 48) * w) + w) - 1)
/-- a number of one digit or two: its value, or -1; where it ends, or where it is wrong -/
def nm (f : Nat → Int32) (L s d lo hi : Int32) : Int32 × Int32 :=
  if d = 2 then (if dgB f L s lo hi 0 10 then (if dgB f L (s + 1) lo hi (dgV f s 0 10) 1 then (dgV f (s + 1) (dgV f s 0 10) 1, s + 1 + 1) else (-1, s + 1)) else (-1, s))
  else (if dgB f L s lo hi 0 1 then (dgV f s 0 1, s + 1) else (-1, s))
theorem i48 : (48 : Int32).toInt = 48 := by decide
theorem i57 : (57 : Int32).toInt = 57 := by decide
theorem in09 (x : Int32) : m_X9_in (x - 48).toInt64 0 9 = 0 ↔ (x < 48 ∨ ¬ x ≤ 57) := by
  have g0 : (0 : Int64).toInt = 0 := by decide
  have g9 : (9 : Int64).toInt = 9 := by decide
  have h1 := i32_lo x
  have h2 := i32_hi x
  have e : (x - 48).toInt = (x.toInt - 48).bmod 4294967296 := by rw [Int32.toInt_sub, i48]
  rw [Int.bmod_def] at e
  constructor
  · intro q
    by_cases c1 : x < 48
    · exact Or.inl c1
    · refine Or.inr (fun c2 => ?_)
      rw [i32_lt, i48] at c1
      rw [i32_le, i57] at c2
      rw [min_of (by rw [i64_i]; omega) (by rw [i64_i]; omega)] at q
      exact absurd q (by decide)
  · intro c
    refine min_0 ?_
    rw [i64_i]
    rcases c with c | c
    · rw [i32_lt, i48] at c; omega
    · rw [i32_le, i57] at c; omega
theorem dg_ok {f : Nat → Int32} {L s lo hi v w : Int32} (h : dgB f L s lo hi v w = true) : ¬ L ≤ s ∧ ¬ f s.toNatClampNeg < 48 ∧ f s.toNatClampNeg ≤ 57 ∧ ¬ hi < v + (f s.toNatClampNeg - 48) * w ∧ lo ≤ ((v + (f s.toNatClampNeg - 48) * w) + w) - 1 := of_decide_eq_true h
theorem dg_no {f : Nat → Int32} {L s lo hi v w : Int32} (h : ¬ dgB f L s lo hi v w = true) : ¬ (¬ L ≤ s ∧ ¬ f s.toNatClampNeg < 48 ∧ f s.toNatClampNeg ≤ 57 ∧ ¬ hi < v + (f s.toNatClampNeg - 48) * w ∧ lo ≤ ((v + (f s.toNatClampNeg - 48) * w) + w) - 1) := fun g => h (decide_eq_true g)
/-- one digit of the reference -/
theorem mdig {mo : MoT} {x1 lo hi v w : Int32} (nF : Nat) (hw : ¬ w ≤ 0) : m_X9_number_L16 (nF + 1) mo x1 lo hi v w = if dgB (mT mo) (mZ mo) (mP mo) lo hi v w then m_X9_number_L16 nF (mP' mo (mP mo + 1)) x1 lo hi (dgV (mT mo) (mP mo) v w) (w / 10) else (-1, mo) := by
  rw [m_X9_number_L16, if_neg hw]
  by_cases b : dgB (mT mo) (mZ mo) (mP mo) lo hi v w = true
  · obtain ⟨b1, b2, b3, b4, b5⟩ := dg_ok b
    rw [if_pos b, if_neg b1, if_neg (fun e => ((in09 _).mp e).elim b2 (fun q => q b3)), if_neg b4, if_pos b5]
    rfl
  · have n := dg_no b
    rw [if_neg b]
    by_cases b1 : mZ mo ≤ mP mo
    · rw [if_pos b1]
    rw [if_neg b1]
    by_cases b2 : (mT mo) (mP mo).toNatClampNeg < 48
    · rw [if_pos ((in09 _).mpr (Or.inl b2))]
    by_cases b3 : (mT mo) (mP mo).toNatClampNeg ≤ 57
    · rw [if_neg (fun e => ((in09 _).mp e).elim b2 (fun q => q b3))]
      by_cases b4 : hi < v + ((mT mo) (mP mo).toNatClampNeg - 48) * w
      · rw [if_pos b4]
      rw [if_neg b4]
      by_cases b5 : lo ≤ ((v + ((mT mo) (mP mo).toNatClampNeg - 48) * w) + w) - 1
      · exact absurd ⟨b1, b2, b3, b4, b5⟩ n
      · rw [if_neg b5]
    · rw [if_pos ((in09 _).mpr (Or.inr b3))]
/-- one digit of the class -/
theorem cdig {tx : TxT} {x1 fd nu op k : Int32} (nF : Nat) (hk : ¬ m_X6_digitsOf fd ≤ k) (h0 : ¬ x1 + k < 0) : m_X6_readNumber_L36 (nF + 1) tx x1 fd nu op k = if dgB (tS tx) (tL tx) (x1 + k) (m_X6_lowestOf fd) (m_X6_highestOf fd) nu op then m_X6_readNumber_L36 nF (tE' tx (x1 + k)) x1 fd (dgV (tS tx) (x1 + k) nu op) (op / 10) (k + 1) else (-1, tE' tx (x1 + k)) := by
  rw [m_X6_readNumber_L36, if_neg hk, if_neg h0]
  by_cases b : dgB (tS tx) (tL tx) (x1 + k) (m_X6_lowestOf fd) (m_X6_highestOf fd) nu op = true
  · obtain ⟨b1, b2, b3, b4, b5⟩ := dg_ok b
    rw [if_pos b, if_neg b1, if_neg b2, if_pos b3, if_neg b4, if_pos b5]
    rfl
  · have n := dg_no b
    rw [if_neg b]
    by_cases b1 : tL tx ≤ x1 + k
    · rw [if_pos b1]
    rw [if_neg b1]
    by_cases b2 : (tS tx) (x1 + k).toNatClampNeg < 48
    · rw [if_pos b2]
    rw [if_neg b2]
    by_cases b3 : (tS tx) (x1 + k).toNatClampNeg ≤ 57
    · rw [if_pos b3]
      by_cases b4 : m_X6_highestOf fd < nu + ((tS tx) (x1 + k).toNatClampNeg - 48) * op
      · rw [if_pos b4]
      rw [if_neg b4]
      by_cases b5 : m_X6_lowestOf fd ≤ ((nu + ((tS tx) (x1 + k).toNatClampNeg - 48) * op) + op) - 1
      · exact absurd ⟨b1, b2, b3, b4, b5⟩ n
      · rw [if_neg b5]
    · rw [if_neg b3]
theorem m_num2 (mo : MoT) (lo hi : Int32) : m_X9_number mo 2 lo hi = ((nm (mT mo) (mZ mo) (mP mo) 2 lo hi).1, mP' mo (nm (mT mo) (mZ mo) (mP mo) 2 lo hi).2) := by
  unfold m_X9_number nm
  rw [if_pos rfl, if_pos rfl, mdig 99 (by decide), show (10 : Int32) / 10 = 1 from rfl]
  by_cases b : dgB (mT mo) (mZ mo) (mP mo) lo hi 0 10 = true
  · rw [if_pos b, if_pos b, mdig 98 (by decide), show (1 : Int32) / 10 = 0 from rfl]
    show (if dgB (mT mo) (mZ mo) (mP mo + 1) lo hi (dgV (mT mo) (mP mo) 0 10) 1 then m_X9_number_L16 98 (mP' (mP' mo (mP mo + 1)) (mP mo + 1 + 1)) 2 lo hi (dgV (mT mo) (mP mo + 1) (dgV (mT mo) (mP mo) 0 10) 1) 0 else (-1, mP' mo (mP mo + 1))) = _
    by_cases b2 : dgB (mT mo) (mZ mo) (mP mo + 1) lo hi (dgV (mT mo) (mP mo) 0 10) 1 = true
    · rw [if_pos b2, if_pos b2, m_X9_number_L16, if_pos (by decide)]
      rfl
    · rw [if_neg b2, if_neg b2]
  · rw [if_neg b, if_neg b]
    rfl
theorem m_num1 (mo : MoT) (lo hi : Int32) : m_X9_number mo 1 lo hi = ((nm (mT mo) (mZ mo) (mP mo) 1 lo hi).1, mP' mo (nm (mT mo) (mZ mo) (mP mo) 1 lo hi).2) := by
  unfold m_X9_number nm
  rw [if_neg (show ¬ (1 : Int32) = 2 by decide), if_neg (show ¬ (1 : Int32) = 2 by decide), mdig 99 (by decide), show (1 : Int32) / 10 = 0 from rfl]
  by_cases b : dgB (mT mo) (mZ mo) (mP mo) lo hi 0 1 = true
  · rw [if_pos b, if_pos b, m_X9_number_L16, if_pos (by decide)]
  · rw [if_neg b, if_neg b]
    rfl
theorem dgV_nn {f : Nat → Int32} {L s lo hi v w : Int32} (h : dgB f L s lo hi v w = true) (hv : 0 ≤ v.toInt ∧ v.toInt ≤ 90) (hw : w = 1 ∨ w = 10) : 0 ≤ (dgV f s v w).toInt ∧ (dgV f s v w).toInt ≤ v.toInt + 90 := by
  obtain ⟨-, b2, b3, -, -⟩ := dg_ok h
  rw [i32_lt, i48] at b2
  rw [i32_le, i57] at b3
  have e : (f s.toNatClampNeg - 48).toInt = (f s.toNatClampNeg).toInt - 48 := by rw [i32_sub (by rw [i48]; omega) (by rw [i48]; omega), i48]
  unfold dgV
  rcases hw with hw | hw
  · subst hw
    have m : ((f s.toNatClampNeg - 48) * 1).toInt = (f s.toNatClampNeg).toInt - 48 := by rw [Int32.mul_one, e]
    rw [i32_add (by omega) (by omega), m]
    omega
  · subst hw
    have i10 : (10 : Int32).toInt = 10 := by decide
    have m : ((f s.toNatClampNeg - 48) * 10).toInt = ((f s.toNatClampNeg).toInt - 48) * 10 := by rw [i32_mul (by rw [e, i10]; omega) (by rw [e, i10]; omega), e, i10]
    rw [i32_add (by omega) (by omega), m]
    omega
theorem nm_val (f : Nat → Int32) (L s d lo hi : Int32) : (nm f L s d lo hi).1 = -1 ∨ 0 ≤ (nm f L s d lo hi).1.toInt := by
  unfold nm
  by_cases d2 : d = 2
  · rw [if_pos d2]
    by_cases b : dgB f L s lo hi 0 10 = true
    · rw [if_pos b]
      have g := dgV_nn b (by decide) (Or.inr rfl)
      have i0 := i32_0
      by_cases b2 : dgB f L (s + 1) lo hi (dgV f s 0 10) 1 = true
      · rw [if_pos b2]
        exact Or.inr (dgV_nn b2 ⟨g.1, by omega⟩ (Or.inl rfl)).1
      · rw [if_neg b2]; exact Or.inl rfl
    · rw [if_neg b]; exact Or.inl rfl
  · rw [if_neg d2]
    by_cases b : dgB f L s lo hi 0 1 = true
    · rw [if_pos b]
      exact Or.inr (dgV_nn b (by decide) (Or.inl rfl)).1
    · rw [if_neg b]; exact Or.inl rfl
/-- the class's number -/
theorem c_num {tx : TxT} {s fd : Int32} (hs : 0 ≤ s.toInt) (hs2 : s.toInt ≤ 200) (hd : m_X6_digitsOf fd = 1 ∨ m_X6_digitsOf fd = 2) : ∃ e : Int32, m_X6_readNumber tx s fd = ((nm (tS tx) (tL tx) s (m_X6_digitsOf fd) (m_X6_lowestOf fd) (m_X6_highestOf fd)).1, tE' tx e) ∧ ((nm (tS tx) (tL tx) s (m_X6_digitsOf fd) (m_X6_lowestOf fd) (m_X6_highestOf fd)).1 = -1 → e = (nm (tS tx) (tL tx) s (m_X6_digitsOf fd) (m_X6_lowestOf fd) (m_X6_highestOf fd)).2) := by
  have s1 : (s + 1).toInt = s.toInt + 1 := by rw [i32_add (by rw [i32_1]; omega) (by rw [i32_1]; omega), i32_1]
  have z0 : ¬ s + 0 < 0 := by rw [Int32.add_zero, i32_lt, i32_0]; omega
  have z1 : ¬ s + 1 < 0 := by rw [i32_lt, i32_0]; omega
  have i0 := i32_0
  unfold m_X6_readNumber nm
  rcases hd with hd | hd
  · rw [hd, if_neg (show ¬ (1 : Int32) = 2 by decide), if_neg (show ¬ (1 : Int32) = 2 by decide), cdig 99 (by rw [hd]; decide) z0, Int32.add_zero]
    by_cases b : dgB (tS tx) (tL tx) s (m_X6_lowestOf fd) (m_X6_highestOf fd) 0 1 = true
    · rw [if_pos b, if_pos b, m_X6_readNumber_L36, if_pos (by rw [hd]; decide)]
      refine ⟨s, rfl, fun q => ?_⟩
      have g := (dgV_nn b (by decide) (Or.inl rfl)).1
      have q2 : dgV (tS tx) s 0 1 = -1 := q
      rw [q2, im1] at g
      omega
    · rw [if_neg b, if_neg b]
      exact ⟨s, rfl, fun _ => rfl⟩
  · rw [hd, if_pos rfl, if_pos rfl, cdig 99 (by rw [hd]; decide) z0, Int32.add_zero, show (10 : Int32) / 10 = 1 from rfl, s01]
    by_cases b : dgB (tS tx) (tL tx) s (m_X6_lowestOf fd) (m_X6_highestOf fd) 0 10 = true
    · have g := dgV_nn b (by decide) (Or.inr rfl)
      rw [if_pos b, if_pos b, cdig 98 (by rw [hd]; decide) z1, show (1 : Int32) / 10 = 0 from rfl]
      show ∃ e : Int32, (if dgB (tS tx) (tL tx) (s + 1) (m_X6_lowestOf fd) (m_X6_highestOf fd) (dgV (tS tx) s 0 10) 1 then m_X6_readNumber_L36 98 (tE' (tE' tx s) (s + 1)) s fd (dgV (tS tx) (s + 1) (dgV (tS tx) s 0 10) 1) 0 (1 + 1) else (-1, tE' (tE' tx s) (s + 1))) = _ ∧ _
      by_cases b2 : dgB (tS tx) (tL tx) (s + 1) (m_X6_lowestOf fd) (m_X6_highestOf fd) (dgV (tS tx) s 0 10) 1 = true
      · rw [if_pos b2, if_pos b2, m_X6_readNumber_L36, if_pos (by rw [hd]; decide)]
        refine ⟨s + 1, rfl, fun q => ?_⟩
        have g2 := (dgV_nn b2 ⟨g.1, by omega⟩ (Or.inl rfl)).1
        have q2 : dgV (tS tx) (s + 1) (dgV (tS tx) s 0 10) 1 = -1 := q
        rw [q2, im1] at g2
        omega
      · rw [if_neg b2, if_neg b2]
        exact ⟨s + 1, rfl, fun _ => rfl⟩
    · rw [if_neg b, if_neg b]
      exact ⟨s, rfl, fun _ => rfl⟩
/-- where a number ends -/
theorem nm_end {f : Nat → Int32} {L s d lo hi : Int32} (hd : d = 1 ∨ d = 2) (h : ¬ (nm f L s d lo hi).1 = -1) : (nm f L s d lo hi).2 = s + d ∧ (∀ x : Int32, iv 0 120 L → 0 ≤ s.toInt → x = s + d → s.toInt + 1 ≤ x.toInt ∧ x.toInt ≤ L.toInt) := by
  have i120 : ∀ {a b : Int32}, ¬ a ≤ b → iv 0 120 a → b.toInt ≤ 119 ∧ b.toInt < a.toInt := fun {a b} q g => by
    rw [i32_le] at q
    have := g.2
    omega
  unfold nm at h ⊢
  rcases hd with hd | hd
  · subst hd
    rw [if_neg (show ¬ (1 : Int32) = 2 by decide)] at h ⊢
    by_cases b : dgB f L s lo hi 0 1 = true
    · rw [if_pos b]
      refine ⟨rfl, fun x g hs e => ?_⟩
      have q := i120 (dg_ok b).1 g
      rw [e, i32_add (by rw [i32_1]; omega) (by rw [i32_1]; omega), i32_1]
      omega
    · rw [if_neg b] at h; exact absurd rfl h
  · subst hd
    rw [if_pos rfl] at h ⊢
    by_cases b : dgB f L s lo hi 0 10 = true
    · rw [if_pos b] at h ⊢
      by_cases b2 : dgB f L (s + 1) lo hi (dgV f s 0 10) 1 = true
      · rw [if_pos b2]
        refine ⟨by show s + 1 + 1 = s + 2; rw [Int32.add_assoc]; rfl, fun x g hs e => ?_⟩
        have q := i120 (dg_ok b).1 g
        have s1 : (s + 1).toInt = s.toInt + 1 := by rw [i32_add (by rw [i32_1]; omega) (by rw [i32_1]; omega), i32_1]
        have q2 := i120 (dg_ok b2).1 g
        rw [e, i32_add (by rw [ii2]; omega) (by rw [ii2]; omega), ii2]
        omega
      · rw [if_neg b2] at h; exact absurd rfl h
    · rw [if_neg b] at h; exact absurd rfl h
