/-! commands of the text: class beside reference -/
theorem rn_SL (x1 x2 : Int32) : ∀ (nF : Nat) (r : TxT) (a b c : Int32), tS (m_X6_readNumber_L36 nF r x1 x2 a b c).2 = tS r := by
  intro nF
  induction nF with
  | zero => intro r a b c; rfl
  | succ nF ih =>
    intro r a b c
    rw [m_X6_readNumber_L36]
    repeat' split
    all_goals first
      | rfl
      | (rw [ih]; rfl)
theorem rn_S (tx : TxT) (x1 x2 : Int32) : tS (m_X6_readNumber tx x1 x2).2 = tS tx := by
  unfold m_X6_readNumber
  repeat' split
  all_goals exact rn_SL _ _ _ _ _ _ _
theorem pt_S (tx : TxT) (x1 x2 : Int32) : tS (m_X6_put tx x1 x2) = tS tx := by
  unfold m_X6_put
  repeat' split
  all_goals rfl
theorem rc_SL (tx : TxT) (x1 : Int32) : ∀ (nF : Nat) (r : TxT) (a b : Int32), tS (m_X6_readCommand_L53 nF tx x1 r a b).2 = tS r := by
  intro nF
  induction nF with
  | zero => intro r a b; rfl
  | succ nF ih =>
    intro r a b
    rw [m_X6_readCommand_L53]
    repeat' split
    all_goals first
      | rfl
      | exact rn_S _ _ _
      | rw [ih, pt_S, rn_S]
theorem rc_S (tx : TxT) (x1 : Int32) : tS (m_X6_readCommand tx x1).2 = tS tx := by
  unfold m_X6_readCommand
  repeat' split
  all_goals first
    | rfl
    | exact rc_SL _ _ _ _ _ _
theorem cstep (nF : Nat) {tx rr : TxT} {s pa k : Int32} {i : Nat} (hF : m_X6_fieldsOf ((tS tx) s.toNatClampNeg) = i) (n : ¬ sLen i ≤ k) : m_X6_readCommand_L53 (nF + 1) tx s rr pa k = if (m_X6_readNumber rr pa (sCh i k)).1 = -1 then (-1, (m_X6_readNumber rr pa (sCh i k)).2) else m_X6_readCommand_L53 nF tx s (m_X6_put (m_X6_readNumber rr pa (sCh i k)).2 k (m_X6_readNumber rr pa (sCh i k)).1) (pa + m_X6_digitsOf (sCh i k)) (k + 1) := by
  rw [m_X6_readCommand_L53, hF, if_neg n]
theorem cend (nF : Nat) {tx rr : TxT} {s pa k : Int32} {i : Nat} (hF : m_X6_fieldsOf ((tS tx) s.toNatClampNeg) = i) (n : sLen i ≤ k) : m_X6_readCommand_L53 (nF + 1) tx s rr pa k = (pa, rr) := by
  rw [m_X6_readCommand_L53, hF, if_pos n]
theorem cbeg {tx : TxT} {s : Int32} {i : Nat} (h0 : 0 ≤ s.toInt) (h1 : ¬ tL tx ≤ s) (hF : m_X6_fieldsOf ((tS tx) s.toNatClampNeg) = i) (he : sEmpty i = 0) : m_X6_readCommand tx s = m_X6_readCommand_L53 100 tx s (tC' (tE' tx s) ((tS tx) s.toNatClampNeg)) (s + 1) 0 := by
  unfold m_X6_readCommand
  rw [if_neg (by rw [i32_lt, i32_0]; omega), if_pos (by rw [i32_le] at h1; rw [i32_lt]; omega), hF, if_pos he]
/-- a field of the class, done or not -/
theorem cfield {rr : TxT} {f : Nat → Int32} {L pa fd d lo hi v e : Int32} (hS : tS rr = f) (hL : tL rr = L) (h0 : 0 ≤ pa.toInt) (h1 : pa.toInt ≤ 200) (hd : m_X6_digitsOf fd = d) (hlo : m_X6_lowestOf fd = lo) (hhi : m_X6_highestOf fd = hi) (h12 : d = 1 ∨ d = 2) (hn : nm f L pa d lo hi = (v, e)) : ∃ e2 : Int32, m_X6_readNumber rr pa fd = (v, tE' rr e2) ∧ (v = -1 → e2 = e) := by
  have g := c_num (tx := rr) (s := pa) (fd := fd) h0 h1 (by rw [hd]; exact h12)
  rw [hS, hL, hd, hlo, hhi, hn] at g
  exact g
theorem c_cmd1 {tx : TxT} {f : Nat → Int32} {s L fd0 d0 lo0 hi0 v0 e0 : Int32} {i : Nat} (hS : tS tx = f) (hL : tL tx = L) (hZ : iv 0 120 L) (h0 : 0 ≤ s.toInt) (h1 : ¬ L ≤ s) (hF : m_X6_fieldsOf (f s.toNatClampNeg) = i) (hl : sLen i = 1) (he : sEmpty i = 0) (hc0 : sCh i 0 = fd0) (hd0 : m_X6_digitsOf fd0 = d0) (hlo0 : m_X6_lowestOf fd0 = lo0) (hhi0 : m_X6_highestOf fd0 = hi0) (h120 : d0 = 1 ∨ d0 = 2) (hn0 : nm f L (s + 1) d0 lo0 hi0 = (v0, e0)) : ∃ t : TxT, m_X6_readCommand tx s = (if v0 = -1 then -1 else e0, t) ∧ (v0 = -1 → tE t = e0) ∧ (¬ v0 = -1 → tC t = f s.toNatClampNeg ∧ tF t = v0 ∧ s.toInt + 1 ≤ (e0 : Int32).toInt ∧ (e0 : Int32).toInt ≤ L.toInt) := by
  subst hS
  subst hL
  have hz := hZ.2
  have h1' := h1
  rw [i32_le] at h1'
  have s1 : (s + 1).toInt = s.toInt + 1 := by rw [i32_add (by rw [i32_1]; omega) (by rw [i32_1]; omega), i32_1]
  rw [cbeg h0 h1 hF he]
  obtain ⟨w0, g0, q0⟩ := cfield (rr := (tC' (tE' tx s) ((tS tx) s.toNatClampNeg))) (f := tS tx) (L := tL tx) rfl rfl (pa := (s + 1)) (by omega) (by omega) hd0 hlo0 hhi0 h120 hn0
  rw [cstep 99 hF (show ¬ sLen i ≤ 0 by rw [hl]; decide), hc0, g0, hd0]
  by_cases c0 : v0 = -1
  · refine ⟨tE' (tC' (tE' tx s) ((tS tx) s.toNatClampNeg)) w0, ?_, ?_, ?_⟩
    · rw [if_pos c0, if_pos c0]
    · intro m; exact q0 m
    · intro a0; exact absurd c0 a0
  obtain ⟨u0, y0⟩ := nm_end (f := tS tx) (L := tL tx) (s := (s + 1)) (lo := lo0) (hi := hi0) h120 (by rw [hn0]; exact c0)
  rw [hn0] at u0
  have z0 := y0 (e0) hZ (by omega) u0
  have u0 : e0 = (s + 1) + d0 := u0
  rw [if_neg c0, ← u0, s01]
  rw [cend 98 hF (show sLen i ≤ 1 by rw [hl]; decide)]
  refine ⟨(m_X6_put (tE' (tC' (tE' tx s) ((tS tx) s.toNatClampNeg)) w0) 0 v0), ?_, ?_, ?_⟩
  · rw [if_neg c0]
  · intro m; exact absurd m c0
  · intro _; exact ⟨rfl, rfl, by omega, by omega⟩
theorem c_cmd2 {tx : TxT} {f : Nat → Int32} {s L fd0 d0 lo0 hi0 v0 e0 fd1 d1 lo1 hi1 v1 e1 : Int32} {i : Nat} (hS : tS tx = f) (hL : tL tx = L) (hZ : iv 0 120 L) (h0 : 0 ≤ s.toInt) (h1 : ¬ L ≤ s) (hF : m_X6_fieldsOf (f s.toNatClampNeg) = i) (hl : sLen i = 2) (he : sEmpty i = 0) (hc0 : sCh i 0 = fd0) (hd0 : m_X6_digitsOf fd0 = d0) (hlo0 : m_X6_lowestOf fd0 = lo0) (hhi0 : m_X6_highestOf fd0 = hi0) (h120 : d0 = 1 ∨ d0 = 2) (hn0 : nm f L (s + 1) d0 lo0 hi0 = (v0, e0)) (hc1 : sCh i 1 = fd1) (hd1 : m_X6_digitsOf fd1 = d1) (hlo1 : m_X6_lowestOf fd1 = lo1) (hhi1 : m_X6_highestOf fd1 = hi1) (h121 : d1 = 1 ∨ d1 = 2) (hn1 : nm f L e0 d1 lo1 hi1 = (v1, e1)) : ∃ t : TxT, m_X6_readCommand tx s = (if v0 = -1 then -1 else if v1 = -1 then -1 else e1, t) ∧ (v0 = -1 → tE t = e0) ∧ (¬ v0 = -1 → v1 = -1 → tE t = e1) ∧ (¬ v0 = -1 → ¬ v1 = -1 → tC t = f s.toNatClampNeg ∧ tF t = v0 ∧ tG t = v1 ∧ s.toInt + 1 ≤ (e1 : Int32).toInt ∧ (e1 : Int32).toInt ≤ L.toInt) := by
  subst hS
  subst hL
  have hz := hZ.2
  have h1' := h1
  rw [i32_le] at h1'
  have s1 : (s + 1).toInt = s.toInt + 1 := by rw [i32_add (by rw [i32_1]; omega) (by rw [i32_1]; omega), i32_1]
  rw [cbeg h0 h1 hF he]
  obtain ⟨w0, g0, q0⟩ := cfield (rr := (tC' (tE' tx s) ((tS tx) s.toNatClampNeg))) (f := tS tx) (L := tL tx) rfl rfl (pa := (s + 1)) (by omega) (by omega) hd0 hlo0 hhi0 h120 hn0
  rw [cstep 99 hF (show ¬ sLen i ≤ 0 by rw [hl]; decide), hc0, g0, hd0]
  by_cases c0 : v0 = -1
  · refine ⟨tE' (tC' (tE' tx s) ((tS tx) s.toNatClampNeg)) w0, ?_, ?_, ?_, ?_⟩
    · rw [if_pos c0, if_pos c0]
    · intro m; exact q0 m
    · intro a0 _; exact absurd c0 a0
    · intro a0 a1; exact absurd c0 a0
  obtain ⟨u0, y0⟩ := nm_end (f := tS tx) (L := tL tx) (s := (s + 1)) (lo := lo0) (hi := hi0) h120 (by rw [hn0]; exact c0)
  rw [hn0] at u0
  have z0 := y0 (e0) hZ (by omega) u0
  have u0 : e0 = (s + 1) + d0 := u0
  rw [if_neg c0, ← u0, s01]
  obtain ⟨w1, g1, q1⟩ := cfield (rr := (m_X6_put (tE' (tC' (tE' tx s) ((tS tx) s.toNatClampNeg)) w0) 0 v0)) (f := tS tx) (L := tL tx) rfl rfl (pa := e0) (by omega) (by omega) hd1 hlo1 hhi1 h121 hn1
  rw [cstep 98 hF (show ¬ sLen i ≤ 1 by rw [hl]; decide), hc1, g1, hd1]
  by_cases c1 : v1 = -1
  · refine ⟨tE' (m_X6_put (tE' (tC' (tE' tx s) ((tS tx) s.toNatClampNeg)) w0) 0 v0) w1, ?_, ?_, ?_, ?_⟩
    · rw [if_neg c0, if_pos c1, if_pos c1]
    · intro m; exact absurd m c0
    · intro _ m; exact q1 m
    · intro a0 a1; exact absurd c1 a1
  obtain ⟨u1, y1⟩ := nm_end (f := tS tx) (L := tL tx) (s := e0) (lo := lo1) (hi := hi1) h121 (by rw [hn1]; exact c1)
  rw [hn1] at u1
  have z1 := y1 (e1) hZ (by omega) u1
  have u1 : e1 = e0 + d1 := u1
  rw [if_neg c1, ← u1, show (1 : Int32) + 1 = 2 from rfl]
  rw [cend 97 hF (show sLen i ≤ 2 by rw [hl]; decide)]
  refine ⟨(m_X6_put (tE' (m_X6_put (tE' (tC' (tE' tx s) ((tS tx) s.toNatClampNeg)) w0) 0 v0) w1) 1 v1), ?_, ?_, ?_, ?_⟩
  · rw [if_neg c0, if_neg c1]
  · intro m; exact absurd m c0
  · intro _ m; exact absurd m c1
  · intro _ _; exact ⟨rfl, rfl, rfl, by omega, by omega⟩
theorem c_cmd3 {tx : TxT} {f : Nat → Int32} {s L fd0 d0 lo0 hi0 v0 e0 fd1 d1 lo1 hi1 v1 e1 fd2 d2 lo2 hi2 v2 e2 : Int32} {i : Nat} (hS : tS tx = f) (hL : tL tx = L) (hZ : iv 0 120 L) (h0 : 0 ≤ s.toInt) (h1 : ¬ L ≤ s) (hF : m_X6_fieldsOf (f s.toNatClampNeg) = i) (hl : sLen i = 3) (he : sEmpty i = 0) (hc0 : sCh i 0 = fd0) (hd0 : m_X6_digitsOf fd0 = d0) (hlo0 : m_X6_lowestOf fd0 = lo0) (hhi0 : m_X6_highestOf fd0 = hi0) (h120 : d0 = 1 ∨ d0 = 2) (hn0 : nm f L (s + 1) d0 lo0 hi0 = (v0, e0)) (hc1 : sCh i 1 = fd1) (hd1 : m_X6_digitsOf fd1 = d1) (hlo1 : m_X6_lowestOf fd1 = lo1) (hhi1 : m_X6_highestOf fd1 = hi1) (h121 : d1 = 1 ∨ d1 = 2) (hn1 : nm f L e0 d1 lo1 hi1 = (v1, e1)) (hc2 : sCh i 2 = fd2) (hd2 : m_X6_digitsOf fd2 = d2) (hlo2 : m_X6_lowestOf fd2 = lo2) (hhi2 : m_X6_highestOf fd2 = hi2) (h122 : d2 = 1 ∨ d2 = 2) (hn2 : nm f L e1 d2 lo2 hi2 = (v2, e2)) : ∃ t : TxT, m_X6_readCommand tx s = (if v0 = -1 then -1 else if v1 = -1 then -1 else if v2 = -1 then -1 else e2, t) ∧ (v0 = -1 → tE t = e0) ∧ (¬ v0 = -1 → v1 = -1 → tE t = e1) ∧ (¬ v0 = -1 → ¬ v1 = -1 → v2 = -1 → tE t = e2) ∧ (¬ v0 = -1 → ¬ v1 = -1 → ¬ v2 = -1 → tC t = f s.toNatClampNeg ∧ tF t = v0 ∧ tG t = v1 ∧ tH t = v2 ∧ s.toInt + 1 ≤ (e2 : Int32).toInt ∧ (e2 : Int32).toInt ≤ L.toInt) := by
  subst hS
  subst hL
  have hz := hZ.2
  have h1' := h1
  rw [i32_le] at h1'
  have s1 : (s + 1).toInt = s.toInt + 1 := by rw [i32_add (by rw [i32_1]; omega) (by rw [i32_1]; omega), i32_1]
  rw [cbeg h0 h1 hF he]
  obtain ⟨w0, g0, q0⟩ := cfield (rr := (tC' (tE' tx s) ((tS tx) s.toNatClampNeg))) (f := tS tx) (L := tL tx) rfl rfl (pa := (s + 1)) (by omega) (by omega) hd0 hlo0 hhi0 h120 hn0
  rw [cstep 99 hF (show ¬ sLen i ≤ 0 by rw [hl]; decide), hc0, g0, hd0]
  by_cases c0 : v0 = -1
  · refine ⟨tE' (tC' (tE' tx s) ((tS tx) s.toNatClampNeg)) w0, ?_, ?_, ?_, ?_, ?_⟩
    · rw [if_pos c0, if_pos c0]
    · intro m; exact q0 m
    · intro a0 _; exact absurd c0 a0
    · intro a0 a1 _; exact absurd c0 a0
    · intro a0 a1 a2; exact absurd c0 a0
  obtain ⟨u0, y0⟩ := nm_end (f := tS tx) (L := tL tx) (s := (s + 1)) (lo := lo0) (hi := hi0) h120 (by rw [hn0]; exact c0)
  rw [hn0] at u0
  have z0 := y0 (e0) hZ (by omega) u0
  have u0 : e0 = (s + 1) + d0 := u0
  rw [if_neg c0, ← u0, s01]
  obtain ⟨w1, g1, q1⟩ := cfield (rr := (m_X6_put (tE' (tC' (tE' tx s) ((tS tx) s.toNatClampNeg)) w0) 0 v0)) (f := tS tx) (L := tL tx) rfl rfl (pa := e0) (by omega) (by omega) hd1 hlo1 hhi1 h121 hn1
  rw [cstep 98 hF (show ¬ sLen i ≤ 1 by rw [hl]; decide), hc1, g1, hd1]
  by_cases c1 : v1 = -1
  · refine ⟨tE' (m_X6_put (tE' (tC' (tE' tx s) ((tS tx) s.toNatClampNeg)) w0) 0 v0) w1, ?_, ?_, ?_, ?_, ?_⟩
    · rw [if_neg c0, if_pos c1, if_pos c1]
    · intro m; exact absurd m c0
    · intro _ m; exact q1 m
    · intro a0 a1 _; exact absurd c1 a1
    · intro a0 a1 a2; exact absurd c1 a1
  obtain ⟨u1, y1⟩ := nm_end (f := tS tx) (L := tL tx) (s := e0) (lo := lo1) (hi := hi1) h121 (by rw [hn1]; exact c1)
  rw [hn1] at u1
  have z1 := y1 (e1) hZ (by omega) u1
  have u1 : e1 = e0 + d1 := u1
  rw [if_neg c1, ← u1, show (1 : Int32) + 1 = 2 from rfl]
  obtain ⟨w2, g2, q2⟩ := cfield (rr := (m_X6_put (tE' (m_X6_put (tE' (tC' (tE' tx s) ((tS tx) s.toNatClampNeg)) w0) 0 v0) w1) 1 v1)) (f := tS tx) (L := tL tx) rfl rfl (pa := e1) (by omega) (by omega) hd2 hlo2 hhi2 h122 hn2
  rw [cstep 97 hF (show ¬ sLen i ≤ 2 by rw [hl]; decide), hc2, g2, hd2]
  by_cases c2 : v2 = -1
  · refine ⟨tE' (m_X6_put (tE' (m_X6_put (tE' (tC' (tE' tx s) ((tS tx) s.toNatClampNeg)) w0) 0 v0) w1) 1 v1) w2, ?_, ?_, ?_, ?_, ?_⟩
    · rw [if_neg c0, if_neg c1, if_pos c2, if_pos c2]
    · intro m; exact absurd m c0
    · intro _ m; exact absurd m c1
    · intro _ _ m; exact q2 m
    · intro a0 a1 a2; exact absurd c2 a2
  obtain ⟨u2, y2⟩ := nm_end (f := tS tx) (L := tL tx) (s := e1) (lo := lo2) (hi := hi2) h122 (by rw [hn2]; exact c2)
  rw [hn2] at u2
  have z2 := y2 (e2) hZ (by omega) u2
  have u2 : e2 = e1 + d2 := u2
  rw [if_neg c2, ← u2, show (2 : Int32) + 1 = 3 from rfl]
  rw [cend 96 hF (show sLen i ≤ 3 by rw [hl]; decide)]
  refine ⟨(m_X6_put (tE' (m_X6_put (tE' (m_X6_put (tE' (tC' (tE' tx s) ((tS tx) s.toNatClampNeg)) w0) 0 v0) w1) 1 v1) w2) 2 v2), ?_, ?_, ?_, ?_, ?_⟩
  · rw [if_neg c0, if_neg c1, if_neg c2]
  · intro m; exact absurd m c0
  · intro _ m; exact absurd m c1
  · intro _ _ m; exact absurd m c2
  · intro _ _ _; exact ⟨rfl, rfl, rfl, rfl, by omega, by omega⟩
theorem m_cmd_n {mo : MoT} {v0 e0 v1 e1 v2 e2 : Int32} (hc : (mT mo) (mP mo).toNatClampNeg = 110) (hn0 : nm (mT mo) (mZ mo) (mP mo + 1) 1 0 2 = (v0, e0)) (hn1 : nm (mT mo) (mZ mo) e0 1 0 4 = (v1, e1)) (hn2 : nm (mT mo) (mZ mo) e1 1 0 7 = (v2, e2)) : m_X9_readCommand mo = if v0 = -1 then (0, mP' mo e0) else if v1 = -1 then (0, mP' mo e1) else if v2 = -1 then (0, mP' mo e2) else m_X9_readCommand_L304 mo (mP' mo e2) v0 v1 v2 := by
  have E0 : m_X9_number (mP' mo (mP mo + 1)) 1 0 2 = (v0, mP' mo e0) := by
    rw [m_num1]
    show ((nm (mT mo) (mZ mo) (mP mo + 1) 1 0 2).1, mP' mo (nm (mT mo) (mZ mo) (mP mo + 1) 1 0 2).2) = _
    rw [hn0]
  have E1 : m_X9_number (mP' mo e0) 1 0 4 = (v1, mP' mo e1) := by
    rw [m_num1]
    show ((nm (mT mo) (mZ mo) e0 1 0 4).1, mP' mo (nm (mT mo) (mZ mo) e0 1 0 4).2) = _
    rw [hn1]
  have E2 : m_X9_number (mP' mo e1) 1 0 7 = (v2, mP' mo e2) := by
    rw [m_num1]
    show ((nm (mT mo) (mZ mo) e1 1 0 7).1, mP' mo (nm (mT mo) (mZ mo) e1 1 0 7).2) = _
    rw [hn2]
  unfold m_X9_readCommand
  rw [hc, if_neg (show ¬ (110 : Int32) = 100 by decide), if_neg (show ¬ (110 : Int32) = 108 by decide), if_pos (show (110 : Int32) = 110 from rfl)]
  rw [E0]
  dsimp only
  rw [E1]
  dsimp only
  rw [E2]
  dsimp only
  by_cases c0 : v0 = -1
  · rw [if_pos c0, if_pos c0, c0]
    unfold m_X9_readCommand_L304
    rw [if_pos rfl]
  by_cases c1 : v1 = -1
  · rw [if_neg c0, if_neg c0, if_pos c1, if_pos c1, c1]
    unfold m_X9_readCommand_L304
    rw [if_neg c0, if_pos rfl]
  by_cases c2 : v2 = -1
  · rw [if_neg c0, if_neg c1, if_neg c0, if_neg c1, if_pos c2, c2]
    unfold m_X9_readCommand_L304
    rw [if_neg c0, if_neg c1, if_pos rfl]
  rw [if_neg c0, if_neg c1, if_neg c0, if_neg c1, if_neg c2]
theorem m_cmd_l {mo : MoT} {v0 e0 v1 e1 v2 e2 : Int32} (hc : (mT mo) (mP mo).toNatClampNeg = 108) (hn0 : nm (mT mo) (mZ mo) (mP mo + 1) 2 0 15 = (v0, e0)) (hn1 : nm (mT mo) (mZ mo) e0 1 0 4 = (v1, e1)) (hn2 : nm (mT mo) (mZ mo) e1 2 1 30 = (v2, e2)) : m_X9_readCommand mo = if v0 = -1 then (0, mP' mo e0) else if v1 = -1 then (0, mP' mo e1) else if v2 = -1 then (0, mP' mo e2) else m_X9_readCommand_L304 mo (mP' mo e2) v0 v1 v2 := by
  have E0 : m_X9_number (mP' mo (mP mo + 1)) 2 0 15 = (v0, mP' mo e0) := by
    rw [m_num2]
    show ((nm (mT mo) (mZ mo) (mP mo + 1) 2 0 15).1, mP' mo (nm (mT mo) (mZ mo) (mP mo + 1) 2 0 15).2) = _
    rw [hn0]
  have E1 : m_X9_number (mP' mo e0) 1 0 4 = (v1, mP' mo e1) := by
    rw [m_num1]
    show ((nm (mT mo) (mZ mo) e0 1 0 4).1, mP' mo (nm (mT mo) (mZ mo) e0 1 0 4).2) = _
    rw [hn1]
  have E2 : m_X9_number (mP' mo e1) 2 1 30 = (v2, mP' mo e2) := by
    rw [m_num2]
    show ((nm (mT mo) (mZ mo) e1 2 1 30).1, mP' mo (nm (mT mo) (mZ mo) e1 2 1 30).2) = _
    rw [hn2]
  unfold m_X9_readCommand
  rw [hc, if_neg (show ¬ (108 : Int32) = 100 by decide), if_pos (show (108 : Int32) = 108 from rfl)]
  rw [E0]
  dsimp only
  rw [E1]
  dsimp only
  rw [E2]
  dsimp only
  by_cases c0 : v0 = -1
  · rw [if_pos c0, if_pos c0, c0]
    unfold m_X9_readCommand_L304
    rw [if_pos rfl]
  by_cases c1 : v1 = -1
  · rw [if_neg c0, if_neg c0, if_pos c1, if_pos c1, c1]
    unfold m_X9_readCommand_L304
    rw [if_neg c0, if_pos rfl]
  by_cases c2 : v2 = -1
  · rw [if_neg c0, if_neg c1, if_neg c0, if_neg c1, if_pos c2, c2]
    unfold m_X9_readCommand_L304
    rw [if_neg c0, if_neg c1, if_pos rfl]
  rw [if_neg c0, if_neg c1, if_neg c0, if_neg c1, if_neg c2]
theorem m_cmd_r {mo : MoT} {v0 e0 : Int32} (hc : (mT mo) (mP mo).toNatClampNeg = 114) (hn0 : nm (mT mo) (mZ mo) (mP mo + 1) 2 0 15 = (v0, e0)) : m_X9_readCommand mo = if v0 = -1 then (0, mP' mo e0) else m_X9_readCommand_L304 mo (mP' mo e0) v0 0 0 := by
  have E0 : m_X9_number (mP' mo (mP mo + 1)) 2 0 15 = (v0, mP' mo e0) := by
    rw [m_num2]
    show ((nm (mT mo) (mZ mo) (mP mo + 1) 2 0 15).1, mP' mo (nm (mT mo) (mZ mo) (mP mo + 1) 2 0 15).2) = _
    rw [hn0]
  unfold m_X9_readCommand
  rw [hc, if_neg (show ¬ (114 : Int32) = 100 by decide), if_neg (show ¬ (114 : Int32) = 108 by decide), if_neg (show ¬ (114 : Int32) = 110 by decide), if_pos (show (114 : Int32) = 114 from rfl)]
  rw [E0]
  dsimp only
  by_cases c0 : v0 = -1
  · rw [if_pos c0, c0]; rfl
  rw [if_neg c0]
theorem m_cmd_x {mo : MoT} {v0 e0 v1 e1 : Int32} (hc : (mT mo) (mP mo).toNatClampNeg = 120) (hn0 : nm (mT mo) (mZ mo) (mP mo + 1) 2 0 15 = (v0, e0)) (hn1 : nm (mT mo) (mZ mo) e0 2 0 15 = (v1, e1)) : m_X9_readCommand mo = if v0 = -1 then (0, mP' mo e0) else if v1 = -1 then (0, mP' mo e1) else m_X9_readCommand_L304 mo (mP' mo e1) v0 v1 0 := by
  have E0 : m_X9_number (mP' mo (mP mo + 1)) 2 0 15 = (v0, mP' mo e0) := by
    rw [m_num2]
    show ((nm (mT mo) (mZ mo) (mP mo + 1) 2 0 15).1, mP' mo (nm (mT mo) (mZ mo) (mP mo + 1) 2 0 15).2) = _
    rw [hn0]
  have E1 : m_X9_number (mP' mo e0) 2 0 15 = (v1, mP' mo e1) := by
    rw [m_num2]
    show ((nm (mT mo) (mZ mo) e0 2 0 15).1, mP' mo (nm (mT mo) (mZ mo) e0 2 0 15).2) = _
    rw [hn1]
  unfold m_X9_readCommand
  rw [hc, if_neg (show ¬ (120 : Int32) = 100 by decide), if_neg (show ¬ (120 : Int32) = 108 by decide), if_neg (show ¬ (120 : Int32) = 110 by decide), if_neg (show ¬ (120 : Int32) = 114 by decide), if_neg (show ¬ (120 : Int32) = 116 by decide), if_pos (show (120 : Int32) = 120 from rfl)]
  rw [E0]
  dsimp only
  rw [E1]
  dsimp only
  by_cases c0 : v0 = -1
  · rw [if_pos c0, if_pos c0, c0]
    unfold m_X9_readCommand_L304
    rw [if_pos rfl]
  by_cases c1 : v1 = -1
  · rw [if_neg c0, if_neg c0, if_pos c1, c1]
    unfold m_X9_readCommand_L304
    rw [if_neg c0, if_pos rfl]
  rw [if_neg c0, if_neg c0, if_neg c1]
theorem m_cmd_t {mo : MoT} {v0 e0 v1 e1 v2 e2 : Int32} (hc : (mT mo) (mP mo).toNatClampNeg = 116) (hn0 : nm (mT mo) (mZ mo) (mP mo + 1) 2 0 15 = (v0, e0)) (hn1 : nm (mT mo) (mZ mo) e0 2 0 15 = (v1, e1)) (hn2 : nm (mT mo) (mZ mo) e1 1 0 2 = (v2, e2)) : m_X9_readCommand mo = if v0 = -1 then (0, mP' mo e0) else if v1 = -1 then (0, mP' mo e1) else if v2 = -1 then (0, mP' mo e2) else m_X9_readCommand_L304 mo (mP' mo e2) v0 v1 v2 := by
  have E0 : m_X9_number (mP' mo (mP mo + 1)) 2 0 15 = (v0, mP' mo e0) := by
    rw [m_num2]
    show ((nm (mT mo) (mZ mo) (mP mo + 1) 2 0 15).1, mP' mo (nm (mT mo) (mZ mo) (mP mo + 1) 2 0 15).2) = _
    rw [hn0]
  have E1 : m_X9_number (mP' mo e0) 2 0 15 = (v1, mP' mo e1) := by
    rw [m_num2]
    show ((nm (mT mo) (mZ mo) e0 2 0 15).1, mP' mo (nm (mT mo) (mZ mo) e0 2 0 15).2) = _
    rw [hn1]
  have E2 : m_X9_number (mP' mo e1) 1 0 2 = (v2, mP' mo e2) := by
    rw [m_num1]
    show ((nm (mT mo) (mZ mo) e1 1 0 2).1, mP' mo (nm (mT mo) (mZ mo) e1 1 0 2).2) = _
    rw [hn2]
  unfold m_X9_readCommand
  rw [hc, if_neg (show ¬ (116 : Int32) = 100 by decide), if_neg (show ¬ (116 : Int32) = 108 by decide), if_neg (show ¬ (116 : Int32) = 110 by decide), if_neg (show ¬ (116 : Int32) = 114 by decide), if_pos (show (116 : Int32) = 116 from rfl)]
  rw [E0]
  dsimp only
  rw [E1]
  dsimp only
  rw [E2]
  dsimp only
  by_cases c0 : v0 = -1
  · rw [if_pos c0, if_pos c0, c0]
    unfold m_X9_readCommand_L304
    rw [if_pos rfl]
  by_cases c1 : v1 = -1
  · rw [if_neg c0, if_neg c0, if_pos c1, if_pos c1, c1]
    unfold m_X9_readCommand_L304
    rw [if_neg c0, if_pos rfl]
  by_cases c2 : v2 = -1
  · rw [if_neg c0, if_neg c1, if_neg c0, if_neg c1, if_pos c2, c2]
    unfold m_X9_readCommand_L304
    rw [if_neg c0, if_neg c1, if_pos rfl]
  rw [if_neg c0, if_neg c1, if_neg c0, if_neg c1, if_neg c2]
theorem m_cmd_d {mo : MoT} {v0 e0 : Int32} (hc : (mT mo) (mP mo).toNatClampNeg = 100) (hn0 : nm (mT mo) (mZ mo) (mP mo + 1) 1 1 9 = (v0, e0)) : m_X9_readCommand mo = if v0 = -1 then (0, mP' mo e0) else m_X9_readCommand_L304 mo (mP' mo e0) v0 0 0 := by
  have E0 : m_X9_number (mP' mo (mP mo + 1)) 1 1 9 = (v0, mP' mo e0) := by
    rw [m_num1]
    show ((nm (mT mo) (mZ mo) (mP mo + 1) 1 1 9).1, mP' mo (nm (mT mo) (mZ mo) (mP mo + 1) 1 1 9).2) = _
    rw [hn0]
  unfold m_X9_readCommand
  rw [hc, if_pos (show (100 : Int32) = 100 from rfl)]
  rw [E0]
  dsimp only
  by_cases c0 : v0 = -1
  · rw [if_pos c0, c0]; rfl
  rw [if_neg c0]
