/-! a text read: class beside reference -/
/-- one command -/
def RC (tx : TxT) (mo : MoT) : Prop := (∃ (t : TxT) (e : Int32), m_X6_readCommand tx (mP mo) = (-1, t) ∧ tE t = e ∧ m_X9_readCommand mo = (0, mP' mo e) ∧ 0 ≤ e.toInt) ∨ ∃ (t : TxT) (nx a b c : Int32), m_X6_readCommand tx (mP mo) = (nx, t) ∧ (mP mo).toInt + 1 ≤ nx.toInt ∧ nx.toInt ≤ (mZ mo).toInt ∧ m_X9_readCommand mo = m_X9_readCommand_L304 mo (mP' mo nx) a b c ∧ (¬ a = -1 ∧ ¬ b = -1 ∧ ¬ c = -1) ∧ ∀ (z : SpT) (r : Nat → Int32) (T : Int), RS (pN z) r → rOK r → BD T r → T ≤ 10000000 → pT z = t → Dos T (pN z) r ((m_X8_doTextCommand z (tC t)).1, pN (m_X8_doTextCommand z (tC t)).2) (m_X9_does r ((mT mo) (mP mo).toNatClampNeg) a b c)
theorem nm_rng {f : Nat → Int32} {L s d lo hi : Int32} (hZ : iv 0 120 L) (h0 : 0 ≤ s.toInt) (h1 : s.toInt ≤ 121) : 0 ≤ (nm f L s d lo hi).2.toInt ∧ (nm f L s d lo hi).2.toInt ≤ 121 := by
  have g : ∀ {a : Int32}, ¬ L ≤ a → a.toInt ≤ 119 := fun {a} q => by
    rw [i32_le] at q
    have := hZ.2
    omega
  have s1 : (s + 1).toInt = s.toInt + 1 := by rw [i32_add (by rw [i32_1]; omega) (by rw [i32_1]; omega), i32_1]
  have s2 : (s + 1 + 1).toInt = s.toInt + 2 := by rw [i32_add (by rw [s1, i32_1]; omega) (by rw [s1, i32_1]; omega), s1, i32_1]; omega
  unfold nm
  by_cases d2 : d = 2
  · rw [if_pos d2]
    by_cases b : dgB f L s lo hi 0 10 = true
    · have q := g (dg_ok b).1
      rw [if_pos b]
      by_cases b2 : dgB f L (s + 1) lo hi (dgV f s 0 10) 1 = true
      · have q2 := g (dg_ok b2).1
        rw [if_pos b2]
        show 0 ≤ (s + 1 + 1).toInt ∧ (s + 1 + 1).toInt ≤ 121
        omega
      · rw [if_neg b2]
        show 0 ≤ (s + 1).toInt ∧ (s + 1).toInt ≤ 121
        omega
    · rw [if_neg b]
      exact ⟨h0, h1⟩
  · rw [if_neg d2]
    by_cases b : dgB f L s lo hi 0 1 = true
    · have q := g (dg_ok b).1
      rw [if_pos b]
      show 0 ≤ (s + 1).toInt ∧ (s + 1).toInt ≤ 121
      omega
    · rw [if_neg b]
      exact ⟨h0, h1⟩
theorem n0m : ¬ (0 : Int32) = -1 := by decide
theorem rc_n {tx : TxT} {mo : MoT} (hS : tS tx = mT mo) (hL : tL tx = mZ mo) (hZ : iv 0 120 (mZ mo)) (h0 : 0 ≤ (mP mo).toInt) (h1 : ¬ mZ mo ≤ mP mo) (hc : (mT mo) (mP mo).toNatClampNeg = 110) : RC tx mo := by
  obtain ⟨v0, e0, hn0⟩ : ∃ v e : Int32, nm (mT mo) (mZ mo) (mP mo + 1) 1 0 2 = (v, e) := ⟨_, _, rfl⟩
  obtain ⟨v1, e1, hn1⟩ : ∃ v e : Int32, nm (mT mo) (mZ mo) e0 1 0 4 = (v, e) := ⟨_, _, rfl⟩
  obtain ⟨v2, e2, hn2⟩ : ∃ v e : Int32, nm (mT mo) (mZ mo) e1 1 0 7 = (v, e) := ⟨_, _, rfl⟩
  have hF : m_X6_fieldsOf ((mT mo) (mP mo).toNatClampNeg) = 0 := by rw [hc]; decide
  obtain ⟨t, ht, q0, q1, q2, hf⟩ := c_cmd3 (i := 0) (fd0 := 107) (d0 := 1) (lo0 := 0) (hi0 := 2) (fd1 := 104) (d1 := 1) (lo1 := 0) (hi1 := 4) (fd2 := 98) (d2 := 1) (lo2 := 0) (hi2 := 7) hS hL hZ h0 h1 hF (by decide) (by decide) (by decide) (by decide) (by decide) (by decide) (Or.inl rfl) hn0 (by decide) (by decide) (by decide) (by decide) (Or.inl rfl) hn1 (by decide) (by decide) (by decide) (by decide) (Or.inl rfl) hn2
  have h1k : (mP mo).toInt < (mZ mo).toInt := by rw [i32_le] at h1; omega
  have hz9 := hZ.2
  have p1k : (mP mo + 1).toInt = (mP mo).toInt + 1 := by rw [i32_add (by rw [i32_1]; omega) (by rw [i32_1]; omega), i32_1]
  have b0 := nm_rng (f := mT mo) (L := mZ mo) (s := (mP mo + 1)) (d := 1) (lo := 0) (hi := 2) hZ (by omega) (by omega)
  rw [hn0] at b0
  have b1 := nm_rng (f := mT mo) (L := mZ mo) (s := e0) (d := 1) (lo := 0) (hi := 4) hZ b0.1 b0.2
  rw [hn1] at b1
  have b2 := nm_rng (f := mT mo) (L := mZ mo) (s := e1) (d := 1) (lo := 0) (hi := 7) hZ b1.1 b1.2
  rw [hn2] at b2
  have hm := m_cmd_n hc hn0 hn1 hn2
  by_cases c0 : v0 = -1
  · rw [if_pos c0] at ht hm
    exact Or.inl ⟨t, e0, ht, q0 c0, hm, b0.1⟩
  by_cases c1 : v1 = -1
  · rw [if_neg c0, if_pos c1] at ht hm
    exact Or.inl ⟨t, e1, ht, q1 c0 c1, hm, b1.1⟩
  by_cases c2 : v2 = -1
  · rw [if_neg c0, if_neg c1, if_pos c2] at ht hm
    exact Or.inl ⟨t, e2, ht, q2 c0 c1 c2, hm, b2.1⟩
  rw [if_neg c0, if_neg c1, if_neg c2] at ht hm
  obtain ⟨f0, g0, g1, g2, f4, f5⟩ := hf c0 c1 c2
  refine Or.inr ⟨t, e2, v0, v1, v2, ht, f4, f5, hm, ⟨c0, c1, c2⟩, fun z r T hR hr hB hT hz => ?_⟩
  have hd : m_X8_doTextCommand z 110 = ((m_X5_tryCome (pN z) (tF (pT z)) (tG (pT z)) (tH (pT z))).1, pN' z (m_X5_tryCome (pN z) (tF (pT z)) (tG (pT z)) (tH (pT z))).2) := by
    unfold m_X8_doTextCommand
    rw [if_neg (show ¬ (110 : Int32) = 100 by decide), if_neg (show ¬ (110 : Int32) = 108 by decide), if_pos (show (110 : Int32) = 110 from rfl)]
  rw [f0, hc, hd, hz, g0, g1, g2]
  exact d_come hR hr hB
theorem rc_l {tx : TxT} {mo : MoT} (hS : tS tx = mT mo) (hL : tL tx = mZ mo) (hZ : iv 0 120 (mZ mo)) (h0 : 0 ≤ (mP mo).toInt) (h1 : ¬ mZ mo ≤ mP mo) (hc : (mT mo) (mP mo).toNatClampNeg = 108) : RC tx mo := by
  obtain ⟨v0, e0, hn0⟩ : ∃ v e : Int32, nm (mT mo) (mZ mo) (mP mo + 1) 2 0 15 = (v, e) := ⟨_, _, rfl⟩
  obtain ⟨v1, e1, hn1⟩ : ∃ v e : Int32, nm (mT mo) (mZ mo) e0 1 0 4 = (v, e) := ⟨_, _, rfl⟩
  obtain ⟨v2, e2, hn2⟩ : ∃ v e : Int32, nm (mT mo) (mZ mo) e1 2 1 30 = (v, e) := ⟨_, _, rfl⟩
  have hF : m_X6_fieldsOf ((mT mo) (mP mo).toNatClampNeg) = 1 := by rw [hc]; decide
  obtain ⟨t, ht, q0, q1, q2, hf⟩ := c_cmd3 (i := 1) (fd0 := 117) (d0 := 2) (lo0 := 0) (hi0 := 15) (fd1 := 104) (d1 := 1) (lo1 := 0) (hi1 := 4) (fd2 := 116) (d2 := 2) (lo2 := 1) (hi2 := 30) hS hL hZ h0 h1 hF (by decide) (by decide) (by decide) (by decide) (by decide) (by decide) (Or.inr rfl) hn0 (by decide) (by decide) (by decide) (by decide) (Or.inl rfl) hn1 (by decide) (by decide) (by decide) (by decide) (Or.inr rfl) hn2
  have h1k : (mP mo).toInt < (mZ mo).toInt := by rw [i32_le] at h1; omega
  have hz9 := hZ.2
  have p1k : (mP mo + 1).toInt = (mP mo).toInt + 1 := by rw [i32_add (by rw [i32_1]; omega) (by rw [i32_1]; omega), i32_1]
  have b0 := nm_rng (f := mT mo) (L := mZ mo) (s := (mP mo + 1)) (d := 2) (lo := 0) (hi := 15) hZ (by omega) (by omega)
  rw [hn0] at b0
  have b1 := nm_rng (f := mT mo) (L := mZ mo) (s := e0) (d := 1) (lo := 0) (hi := 4) hZ b0.1 b0.2
  rw [hn1] at b1
  have b2 := nm_rng (f := mT mo) (L := mZ mo) (s := e1) (d := 2) (lo := 1) (hi := 30) hZ b1.1 b1.2
  rw [hn2] at b2
  have hm := m_cmd_l hc hn0 hn1 hn2
  by_cases c0 : v0 = -1
  · rw [if_pos c0] at ht hm
    exact Or.inl ⟨t, e0, ht, q0 c0, hm, b0.1⟩
  by_cases c1 : v1 = -1
  · rw [if_neg c0, if_pos c1] at ht hm
    exact Or.inl ⟨t, e1, ht, q1 c0 c1, hm, b1.1⟩
  by_cases c2 : v2 = -1
  · rw [if_neg c0, if_neg c1, if_pos c2] at ht hm
    exact Or.inl ⟨t, e2, ht, q2 c0 c1 c2, hm, b2.1⟩
  rw [if_neg c0, if_neg c1, if_neg c2] at ht hm
  obtain ⟨f0, g0, g1, g2, f4, f5⟩ := hf c0 c1 c2
  refine Or.inr ⟨t, e2, v0, v1, v2, ht, f4, f5, hm, ⟨c0, c1, c2⟩, fun z r T hR hr hB hT hz => ?_⟩
  have hd : m_X8_doTextCommand z 108 = ((m_X5_tryLend (pN z) (tF (pT z)) (tG (pT z)) (tH (pT z))).1, pN' z (m_X5_tryLend (pN z) (tF (pT z)) (tG (pT z)) (tH (pT z))).2) := by
    unfold m_X8_doTextCommand
    rw [if_neg (show ¬ (108 : Int32) = 100 by decide), if_pos (show (108 : Int32) = 108 from rfl)]
  rw [f0, hc, hd, hz, g0, g1, g2]
  exact d_lend hR hr hB hT
theorem rc_r {tx : TxT} {mo : MoT} (hS : tS tx = mT mo) (hL : tL tx = mZ mo) (hZ : iv 0 120 (mZ mo)) (h0 : 0 ≤ (mP mo).toInt) (h1 : ¬ mZ mo ≤ mP mo) (hc : (mT mo) (mP mo).toNatClampNeg = 114) : RC tx mo := by
  obtain ⟨v0, e0, hn0⟩ : ∃ v e : Int32, nm (mT mo) (mZ mo) (mP mo + 1) 2 0 15 = (v, e) := ⟨_, _, rfl⟩
  have hF : m_X6_fieldsOf ((mT mo) (mP mo).toNatClampNeg) = 2 := by rw [hc]; decide
  obtain ⟨t, ht, q0, hf⟩ := c_cmd1 (i := 2) (fd0 := 117) (d0 := 2) (lo0 := 0) (hi0 := 15) hS hL hZ h0 h1 hF (by decide) (by decide) (by decide) (by decide) (by decide) (by decide) (Or.inr rfl) hn0
  have h1k : (mP mo).toInt < (mZ mo).toInt := by rw [i32_le] at h1; omega
  have hz9 := hZ.2
  have p1k : (mP mo + 1).toInt = (mP mo).toInt + 1 := by rw [i32_add (by rw [i32_1]; omega) (by rw [i32_1]; omega), i32_1]
  have b0 := nm_rng (f := mT mo) (L := mZ mo) (s := (mP mo + 1)) (d := 2) (lo := 0) (hi := 15) hZ (by omega) (by omega)
  rw [hn0] at b0
  have hm := m_cmd_r hc hn0
  by_cases c0 : v0 = -1
  · rw [if_pos c0] at ht hm
    exact Or.inl ⟨t, e0, ht, q0 c0, hm, b0.1⟩
  rw [if_neg c0] at ht hm
  obtain ⟨f0, g0, f4, f5⟩ := hf c0
  refine Or.inr ⟨t, e0, v0, 0, 0, ht, f4, f5, hm, ⟨c0, n0m, n0m⟩, fun z r T hR hr hB hT hz => ?_⟩
  have hd : m_X8_doTextCommand z 114 = ((m_X5_tryBring (pN z) (tF (pT z))).1, pN' z (m_X5_tryBring (pN z) (tF (pT z))).2) := by
    unfold m_X8_doTextCommand
    rw [if_neg (show ¬ (114 : Int32) = 100 by decide), if_neg (show ¬ (114 : Int32) = 108 by decide), if_neg (show ¬ (114 : Int32) = 110 by decide), if_pos (show (114 : Int32) = 114 from rfl)]
  rw [f0, hc, hd, hz, g0]
  exact d_bring hR hr hB hT
theorem rc_x {tx : TxT} {mo : MoT} (hS : tS tx = mT mo) (hL : tL tx = mZ mo) (hZ : iv 0 120 (mZ mo)) (h0 : 0 ≤ (mP mo).toInt) (h1 : ¬ mZ mo ≤ mP mo) (hc : (mT mo) (mP mo).toNatClampNeg = 120) : RC tx mo := by
  obtain ⟨v0, e0, hn0⟩ : ∃ v e : Int32, nm (mT mo) (mZ mo) (mP mo + 1) 2 0 15 = (v, e) := ⟨_, _, rfl⟩
  obtain ⟨v1, e1, hn1⟩ : ∃ v e : Int32, nm (mT mo) (mZ mo) e0 2 0 15 = (v, e) := ⟨_, _, rfl⟩
  have hF : m_X6_fieldsOf ((mT mo) (mP mo).toNatClampNeg) = 3 := by rw [hc]; decide
  obtain ⟨t, ht, q0, q1, hf⟩ := c_cmd2 (i := 3) (fd0 := 117) (d0 := 2) (lo0 := 0) (hi0 := 15) (fd1 := 117) (d1 := 2) (lo1 := 0) (hi1 := 15) hS hL hZ h0 h1 hF (by decide) (by decide) (by decide) (by decide) (by decide) (by decide) (Or.inr rfl) hn0 (by decide) (by decide) (by decide) (by decide) (Or.inr rfl) hn1
  have h1k : (mP mo).toInt < (mZ mo).toInt := by rw [i32_le] at h1; omega
  have hz9 := hZ.2
  have p1k : (mP mo + 1).toInt = (mP mo).toInt + 1 := by rw [i32_add (by rw [i32_1]; omega) (by rw [i32_1]; omega), i32_1]
  have b0 := nm_rng (f := mT mo) (L := mZ mo) (s := (mP mo + 1)) (d := 2) (lo := 0) (hi := 15) hZ (by omega) (by omega)
  rw [hn0] at b0
  have b1 := nm_rng (f := mT mo) (L := mZ mo) (s := e0) (d := 2) (lo := 0) (hi := 15) hZ b0.1 b0.2
  rw [hn1] at b1
  have hm := m_cmd_x hc hn0 hn1
  by_cases c0 : v0 = -1
  · rw [if_pos c0] at ht hm
    exact Or.inl ⟨t, e0, ht, q0 c0, hm, b0.1⟩
  by_cases c1 : v1 = -1
  · rw [if_neg c0, if_pos c1] at ht hm
    exact Or.inl ⟨t, e1, ht, q1 c0 c1, hm, b1.1⟩
  rw [if_neg c0, if_neg c1] at ht hm
  obtain ⟨f0, g0, g1, f4, f5⟩ := hf c0 c1
  refine Or.inr ⟨t, e1, v0, v1, 0, ht, f4, f5, hm, ⟨c0, c1, n0m⟩, fun z r T hR hr hB hT hz => ?_⟩
  have hd : m_X8_doTextCommand z 120 = ((m_X5_tryExchange (pN z) (tF (pT z)) (tG (pT z))).1, pN' z (m_X5_tryExchange (pN z) (tF (pT z)) (tG (pT z))).2) := by
    unfold m_X8_doTextCommand
    rw [if_neg (show ¬ (120 : Int32) = 100 by decide), if_neg (show ¬ (120 : Int32) = 108 by decide), if_neg (show ¬ (120 : Int32) = 110 by decide), if_neg (show ¬ (120 : Int32) = 114 by decide), if_neg (show ¬ (120 : Int32) = 116 by decide), if_pos (show (120 : Int32) = 120 from rfl)]
  rw [f0, hc, hd, hz, g0, g1]
  exact d_exchange hR hr hB
theorem rc_t {tx : TxT} {mo : MoT} (hS : tS tx = mT mo) (hL : tL tx = mZ mo) (hZ : iv 0 120 (mZ mo)) (h0 : 0 ≤ (mP mo).toInt) (h1 : ¬ mZ mo ≤ mP mo) (hc : (mT mo) (mP mo).toNatClampNeg = 116) : RC tx mo := by
  obtain ⟨v0, e0, hn0⟩ : ∃ v e : Int32, nm (mT mo) (mZ mo) (mP mo + 1) 2 0 15 = (v, e) := ⟨_, _, rfl⟩
  obtain ⟨v1, e1, hn1⟩ : ∃ v e : Int32, nm (mT mo) (mZ mo) e0 2 0 15 = (v, e) := ⟨_, _, rfl⟩
  obtain ⟨v2, e2, hn2⟩ : ∃ v e : Int32, nm (mT mo) (mZ mo) e1 1 0 2 = (v, e) := ⟨_, _, rfl⟩
  have hF : m_X6_fieldsOf ((mT mo) (mP mo).toNatClampNeg) = 4 := by rw [hc]; decide
  obtain ⟨t, ht, q0, q1, q2, hf⟩ := c_cmd3 (i := 4) (fd0 := 117) (d0 := 2) (lo0 := 0) (hi0 := 15) (fd1 := 117) (d1 := 2) (lo1 := 0) (hi1 := 15) (fd2 := 112) (d2 := 1) (lo2 := 0) (hi2 := 2) hS hL hZ h0 h1 hF (by decide) (by decide) (by decide) (by decide) (by decide) (by decide) (Or.inr rfl) hn0 (by decide) (by decide) (by decide) (by decide) (Or.inr rfl) hn1 (by decide) (by decide) (by decide) (by decide) (Or.inl rfl) hn2
  have h1k : (mP mo).toInt < (mZ mo).toInt := by rw [i32_le] at h1; omega
  have hz9 := hZ.2
  have p1k : (mP mo + 1).toInt = (mP mo).toInt + 1 := by rw [i32_add (by rw [i32_1]; omega) (by rw [i32_1]; omega), i32_1]
  have b0 := nm_rng (f := mT mo) (L := mZ mo) (s := (mP mo + 1)) (d := 2) (lo := 0) (hi := 15) hZ (by omega) (by omega)
  rw [hn0] at b0
  have b1 := nm_rng (f := mT mo) (L := mZ mo) (s := e0) (d := 2) (lo := 0) (hi := 15) hZ b0.1 b0.2
  rw [hn1] at b1
  have b2 := nm_rng (f := mT mo) (L := mZ mo) (s := e1) (d := 1) (lo := 0) (hi := 2) hZ b1.1 b1.2
  rw [hn2] at b2
  have hm := m_cmd_t hc hn0 hn1 hn2
  by_cases c0 : v0 = -1
  · rw [if_pos c0] at ht hm
    exact Or.inl ⟨t, e0, ht, q0 c0, hm, b0.1⟩
  by_cases c1 : v1 = -1
  · rw [if_neg c0, if_pos c1] at ht hm
    exact Or.inl ⟨t, e1, ht, q1 c0 c1, hm, b1.1⟩
  by_cases c2 : v2 = -1
  · rw [if_neg c0, if_neg c1, if_pos c2] at ht hm
    exact Or.inl ⟨t, e2, ht, q2 c0 c1 c2, hm, b2.1⟩
  rw [if_neg c0, if_neg c1, if_neg c2] at ht hm
  obtain ⟨f0, g0, g1, g2, f4, f5⟩ := hf c0 c1 c2
  refine Or.inr ⟨t, e2, v0, v1, v2, ht, f4, f5, hm, ⟨c0, c1, c2⟩, fun z r T hR hr hB hT hz => ?_⟩
  have hd : m_X8_doTextCommand z 116 = ((m_X5_tryTake (pN z) (tF (pT z)) (tG (pT z)) (tH (pT z))).1, pN' z (m_X5_tryTake (pN z) (tF (pT z)) (tG (pT z)) (tH (pT z))).2) := by
    unfold m_X8_doTextCommand
    rw [if_neg (show ¬ (116 : Int32) = 100 by decide), if_neg (show ¬ (116 : Int32) = 108 by decide), if_neg (show ¬ (116 : Int32) = 110 by decide), if_neg (show ¬ (116 : Int32) = 114 by decide), if_pos (show (116 : Int32) = 116 from rfl)]
  rw [f0, hc, hd, hz, g0, g1, g2]
  exact d_take hR hr hB hT
theorem rc_d {tx : TxT} {mo : MoT} (hS : tS tx = mT mo) (hL : tL tx = mZ mo) (hZ : iv 0 120 (mZ mo)) (h0 : 0 ≤ (mP mo).toInt) (h1 : ¬ mZ mo ≤ mP mo) (hc : (mT mo) (mP mo).toNatClampNeg = 100) : RC tx mo := by
  obtain ⟨v0, e0, hn0⟩ : ∃ v e : Int32, nm (mT mo) (mZ mo) (mP mo + 1) 1 1 9 = (v, e) := ⟨_, _, rfl⟩
  have hF : m_X6_fieldsOf ((mT mo) (mP mo).toNatClampNeg) = 5 := by rw [hc]; decide
  obtain ⟨t, ht, q0, hf⟩ := c_cmd1 (i := 5) (fd0 := 110) (d0 := 1) (lo0 := 1) (hi0 := 9) hS hL hZ h0 h1 hF (by decide) (by decide) (by decide) (by decide) (by decide) (by decide) (Or.inl rfl) hn0
  have h1k : (mP mo).toInt < (mZ mo).toInt := by rw [i32_le] at h1; omega
  have hz9 := hZ.2
  have p1k : (mP mo + 1).toInt = (mP mo).toInt + 1 := by rw [i32_add (by rw [i32_1]; omega) (by rw [i32_1]; omega), i32_1]
  have b0 := nm_rng (f := mT mo) (L := mZ mo) (s := (mP mo + 1)) (d := 1) (lo := 1) (hi := 9) hZ (by omega) (by omega)
  rw [hn0] at b0
  have hm := m_cmd_d hc hn0
  by_cases c0 : v0 = -1
  · rw [if_pos c0] at ht hm
    exact Or.inl ⟨t, e0, ht, q0 c0, hm, b0.1⟩
  rw [if_neg c0] at ht hm
  obtain ⟨f0, g0, f4, f5⟩ := hf c0
  refine Or.inr ⟨t, e0, v0, 0, 0, ht, f4, f5, hm, ⟨c0, n0m, n0m⟩, fun z r T hR hr hB hT hz => ?_⟩
  have hd : m_X8_doTextCommand z 100 = ((m_X5_tryDays (pN z) (tF (pT z))).1, pN' z (m_X5_tryDays (pN z) (tF (pT z))).2) := by
    unfold m_X8_doTextCommand
    rw [if_pos (show (100 : Int32) = 100 from rfl)]
  rw [f0, hc, hd, hz, g0]
  exact d_days hR hr hB hT
theorem rc_all {tx : TxT} {mo : MoT} (hS : tS tx = mT mo) (hL : tL tx = mZ mo) (hZ : iv 0 120 (mZ mo)) (h0 : 0 ≤ (mP mo).toInt) (h1 : ¬ mZ mo ≤ mP mo) : RC tx mo := by
  by_cases a1 : (mT mo) (mP mo).toNatClampNeg = 100
  · exact rc_d hS hL hZ h0 h1 a1
  by_cases a2 : (mT mo) (mP mo).toNatClampNeg = 108
  · exact rc_l hS hL hZ h0 h1 a2
  by_cases a3 : (mT mo) (mP mo).toNatClampNeg = 110
  · exact rc_n hS hL hZ h0 h1 a3
  by_cases a4 : (mT mo) (mP mo).toNatClampNeg = 114
  · exact rc_r hS hL hZ h0 h1 a4
  by_cases a5 : (mT mo) (mP mo).toNatClampNeg = 116
  · exact rc_t hS hL hZ h0 h1 a5
  by_cases a6 : (mT mo) (mP mo).toNatClampNeg = 120
  · exact rc_x hS hL hZ h0 h1 a6
  have hF : m_X6_fieldsOf ((mT mo) (mP mo).toNatClampNeg) = 6 := by
    unfold m_X6_fieldsOf
    rw [if_neg a1, if_neg a2, if_neg a3, if_neg a4, if_neg a5, if_neg a6]
  have hc : m_X6_readCommand tx (mP mo) = (-1, tC' (tE' tx (mP mo)) ((tS tx) (mP mo).toNatClampNeg)) := by
    unfold m_X6_readCommand
    rw [if_neg (by rw [i32_lt, i32_0]; omega), if_pos (by rw [hL]; rw [i32_le] at h1; rw [i32_lt]; omega), hS, hF, if_neg (by decide)]
  have hm : m_X9_readCommand mo = (0, mP' mo (mP mo)) := by
    unfold m_X9_readCommand
    rw [if_neg a1, if_neg a2, if_neg a3, if_neg a4, if_neg a5, if_neg a6, show mP mo + 1 - 1 = mP mo by grind]
  exact Or.inl ⟨_, mP mo, hc, rfl, hm, h0⟩
/-- what is not the text's own state, kept by a command -/
theorem dt_keep (z : SpT) (c : Int32) : pT (m_X8_doTextCommand z c).2 = pT z ∧ pA (m_X8_doTextCommand z c).2 = pA z ∧ pB (m_X8_doTextCommand z c).2 = pB z ∧ pH (m_X8_doTextCommand z c).2 = pH z ∧ pV (m_X8_doTextCommand z c).2 = pV z := by
  unfold m_X8_doTextCommand
  by_cases a1 : c = 100
  · rw [if_pos a1]; exact ⟨rfl, rfl, rfl, rfl, rfl⟩
  rw [if_neg a1]
  by_cases a2 : c = 108
  · rw [if_pos a2]; exact ⟨rfl, rfl, rfl, rfl, rfl⟩
  rw [if_neg a2]
  by_cases a3 : c = 110
  · rw [if_pos a3]; exact ⟨rfl, rfl, rfl, rfl, rfl⟩
  rw [if_neg a3]
  by_cases a4 : c = 114
  · rw [if_pos a4]; exact ⟨rfl, rfl, rfl, rfl, rfl⟩
  rw [if_neg a4]
  by_cases a5 : c = 116
  · rw [if_pos a5]; exact ⟨rfl, rfl, rfl, rfl, rfl⟩
  rw [if_neg a5]
  by_cases a6 : c = 120
  · rw [if_pos a6]; exact ⟨rfl, rfl, rfl, rfl, rfl⟩
  rw [if_neg a6]; exact ⟨rfl, rfl, rfl, rfl, rfl⟩
theorem L304_ok (mo : MoT) {nx a b d : Int32} (h : ¬ a = -1 ∧ ¬ b = -1 ∧ ¬ d = -1) : m_X9_readCommand_L304 mo (mP' mo nx) a b d = (1, mO' (mW' (mP' mo nx) (m_X9_does (mW mo) ((mT mo) (mP mo).toNatClampNeg) a b d).2) (mO mo + (if (m_X9_does (mW mo) ((mT mo) (mP mo).toNatClampNeg) a b d).1 = 0 then 1 else 0))) := by
  unfold m_X9_readCommand_L304
  rw [if_neg h.1, if_neg h.2.1, if_neg h.2.2]
  by_cases q : (m_X9_does (mW mo) ((mT mo) (mP mo).toNatClampNeg) a b d).1 = 0
  · rw [if_pos q]
    exact if_pos q
  · rw [if_neg q]
    exact if_neg q
/-- the text read through by both: where it is wrong; and what it does -/
theorem text_L : ∀ (nF : Nat) (tx : TxT) (mo : MoT), tS tx = mT mo → tL tx = mZ mo → iv 0 120 (mZ mo) → 0 ≤ (mP mo).toInt → (mP mo).toInt ≤ (mZ mo).toInt → ((mZ mo).toInt - (mP mo).toInt).toNat < nF → rOK (mW mo) →
    (m_X6_firstError_L22 nF tx (mP mo)).1 = (m_X9_readText_L39 nF mo).1 ∧ (∃ (W : Nat → Int32) (P O : Int32), (m_X9_readText_L39 nF mo).2 = mO' (mP' (mW' mo W) P) O) ∧
    ∀ (z : SpT) (T : Int), tS (pT z) = mT mo → tL (pT z) = mZ mo → RS (pN z) (mW mo) → BD T (mW mo) → T + 99 * ((mZ mo).toInt - (mP mo).toInt) ≤ 100000 → (m_X9_readText_L39 nF mo).1 = -1 →
      (m_X8_doText_L4 nF z (mO mo) (mP mo)).1 = mO (m_X9_readText_L39 nF mo).2 ∧ RS (pN (m_X8_doText_L4 nF z (mO mo) (mP mo)).2) (mW (m_X9_readText_L39 nF mo).2) ∧ BD 100000 (mW (m_X9_readText_L39 nF mo).2) ∧ tS (pT (m_X8_doText_L4 nF z (mO mo) (mP mo)).2) = mT mo ∧ tL (pT (m_X8_doText_L4 nF z (mO mo) (mP mo)).2) = mZ mo ∧ pA (m_X8_doText_L4 nF z (mO mo) (mP mo)).2 = pA z ∧ pB (m_X8_doText_L4 nF z (mO mo) (mP mo)).2 = pB z ∧ pH (m_X8_doText_L4 nF z (mO mo) (mP mo)).2 = pH z ∧ pV (m_X8_doText_L4 nF z (mO mo) (mP mo)).2 = pV z := by
  intro nF
  induction nF with
  | zero => intro tx mo hS hL hZ h0 hp hf; omega
  | succ nF ih =>
    intro tx mo hS hL hZ h0 hp hf hW
    rw [m_X6_firstError_L22, m_X9_readText_L39, hL]
    by_cases c : mZ mo ≤ mP mo
    · rw [if_pos c, if_pos c]
      refine ⟨rfl, ⟨mW mo, mP mo, mO mo, rfl⟩, fun z T zS zL zR zB zT _ => ?_⟩
      rw [m_X8_doText_L4, zL, if_pos c]
      exact ⟨rfl, zR, BD_up zB (by omega), zS, zL, rfl, rfl, rfl, rfl⟩
    · have c2 := c
      rw [i32_le] at c2
      rw [if_neg c, if_neg c]
      rcases rc_all hS hL hZ h0 c with ⟨t, e, e1, e2, e3, e4⟩ | ⟨t, nx, a, b, d, e1, e2, e3, e4, e5, e8⟩
      · rw [e1, e3, if_neg (show ¬ mP mo < (-1 : Int32) by rw [i32_lt, im1]; omega), if_pos rfl]
        refine ⟨e2, ⟨mW mo, e, mO mo, rfl⟩, fun z T zS zL zR zB zT q => ?_⟩
        have q2 : e = -1 := q
        rw [q2, im1] at e4
        omega
      · have lt : mP mo < nx := by rw [i32_lt]; omega
        have tSt : tS t = mT mo := by
          have := rc_S tx (mP mo)
          rw [e1] at this
          exact this.trans hS
        have tLt : tL t = mZ mo := by
          have := rc_L tx (mP mo)
          rw [e1] at this
          exact this.trans hL
        have em := L304_ok (nx := nx) mo e5
        rw [← e4] at em
        generalize hm2 : (m_X9_readCommand mo).2 = mo2
        have m1 : (m_X9_readCommand mo).1 = 1 := by rw [em]
        have m2 := congrArg Prod.snd em
        rw [hm2] at m2
        have rk : rOK (mW mo2) := by rw [m2]; exact rok_does hW
        have mt : mT mo2 = mT mo := by rw [m2]; rfl
        have mz : mZ mo2 = mZ mo := by rw [m2]; rfl
        have mp : mP mo2 = nx := by rw [m2]; rfl
        rw [e1, m1, if_pos lt, if_neg (show ¬ (1 : Int32) = 0 by decide)]
        obtain ⟨k1, ⟨W, P, O, k2⟩, k3⟩ := ih t mo2 (tSt.trans mt.symm) (tLt.trans mz.symm) (by rw [mz]; exact hZ) (by rw [mp]; omega) (by rw [mp, mz]; exact e3) (by rw [mp, mz]; omega) rk
        rw [mp] at k1 k3
        refine ⟨k1, ⟨W, P, O, by rw [k2, m2]; rfl⟩, fun z T zS zL zR zB zT q => ?_⟩
        rcases rc_all zS zL hZ h0 c with ⟨t', e', x1, x2, x3, x4⟩ | ⟨t', nx', a', b', d', x1, x2, x3, x4, x5, x8⟩
        · rw [x3] at m1
          exact absurd m1 (by show ¬ (0 : Int32) = 1; decide)
        · have em' := L304_ok (nx := nx') mo x5
          rw [← x4] at em'
          have m3 := congrArg Prod.snd em'
          rw [hm2] at m3
          have nn : nx' = nx := by
            have := congrArg mP m3
            rw [mp] at this
            exact this.symm
          rw [nn] at x1 m3
          have D := x8 (pT' z t') (mW mo) T zR hW zB (by omega) rfl
          have kp := dt_keep (pT' z t') (tC t')
          have tS2 : tS t' = mT mo := by
            have := rc_S (pT z) (mP mo)
            rw [x1] at this
            exact this.trans zS
          have tL2 : tL t' = mZ mo := by
            have := rc_L (pT z) (mP mo)
            rw [x1] at this
            exact this.trans zL
          have hz2 := hZ.2
          have fin : ∀ lo : Int32, mO mo2 = lo → RS (pN (m_X8_doTextCommand (pT' z t') (tC t')).2) (mW mo2) → BD (T + 99) (mW mo2) → (m_X8_doText_L4 nF (m_X8_doTextCommand (pT' z t') (tC t')).2 lo nx).1 = mO (m_X9_readText_L39 nF mo2).2 ∧ RS (pN (m_X8_doText_L4 nF (m_X8_doTextCommand (pT' z t') (tC t')).2 lo nx).2) (mW (m_X9_readText_L39 nF mo2).2) ∧ BD 100000 (mW (m_X9_readText_L39 nF mo2).2) ∧ tS (pT (m_X8_doText_L4 nF (m_X8_doTextCommand (pT' z t') (tC t')).2 lo nx).2) = mT mo ∧ tL (pT (m_X8_doText_L4 nF (m_X8_doTextCommand (pT' z t') (tC t')).2 lo nx).2) = mZ mo ∧ pA (m_X8_doText_L4 nF (m_X8_doTextCommand (pT' z t') (tC t')).2 lo nx).2 = pA z ∧ pB (m_X8_doText_L4 nF (m_X8_doTextCommand (pT' z t') (tC t')).2 lo nx).2 = pB z ∧ pH (m_X8_doText_L4 nF (m_X8_doTextCommand (pT' z t') (tC t')).2 lo nx).2 = pH z ∧ pV (m_X8_doText_L4 nF (m_X8_doTextCommand (pT' z t') (tC t')).2 lo nx).2 = pV z := fun lo hlo hR hB => by
            subst hlo
            obtain ⟨r1, r2, r3, r4, r5, r6, r7, r8, r9⟩ := k3 (m_X8_doTextCommand (pT' z t') (tC t')).2 (T + 99) (by rw [kp.1, mt]; exact tS2) (by rw [kp.1, mz]; exact tL2) hR hB (by rw [mz]; omega) q
            exact ⟨r1, r2, r3, r4.trans mt, r5.trans mz, r6.trans kp.2.1, r7.trans kp.2.2.1, r8.trans kp.2.2.2.1, r9.trans kp.2.2.2.2⟩
          rw [m_X8_doText_L4, zL, if_neg c, x1, if_pos lt]
          rcases D with ⟨d1, d2, d3⟩ | ⟨d1, d2, d3, d4⟩
          · rw [d1] at m3
            have d2' : (m_X8_doTextCommand (pT' z t') (tC t')).1 < 0 := d2
            rw [if_neg (show ¬ 0 ≤ (m_X8_doTextCommand (pT' z t') (tC t')).1 by rw [i32_lt] at d2'; rw [i32_le]; omega)]
            have d3' : pN (m_X8_doTextCommand (pT' z t') (tC t')).2 = pN z := d3
            refine fin (mO mo + 1) (by rw [m3]; rfl) ?_ ?_
            · rw [d3', m3]; exact zR
            · rw [m3]; exact BD_up zB (by omega)
          · have d2' : ¬ (m_X8_doTextCommand (pT' z t') (tC t')).1 < 0 := d2
            rw [if_pos (show 0 ≤ (m_X8_doTextCommand (pT' z t') (tC t')).1 by rw [i32_lt] at d2'; rw [i32_le]; omega)]
            rw [d1, if_neg (show ¬ (1 : Int32) = 0 by decide), Int32.add_zero] at m3
            refine fin (mO mo) (by rw [m3]; rfl) ?_ ?_
            · rw [m3]; exact d3
            · rw [m3]; exact d4
