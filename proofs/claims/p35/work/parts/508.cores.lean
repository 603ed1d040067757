/-! cores that are owed -/
theorem core_ix {h k : Int32} (hh : iv 0 4 h) (hk : iv 0 5 k) : (h * 6 + k).toNatClampNeg = 6 * h.toNatClampNeg + k.toNatClampNeg ∧ ((h * 6 + k) + 1).toNatClampNeg = 6 * h.toNatClampNeg + k.toNatClampNeg + 1 := by
  have g1 := iv_int hh
  have g2 := iv_int hk
  have a1 := hh.2
  have a2 := hk.2
  have m1 : (h * 6).toInt = h.toInt * 6 := by rw [i32_mul (by rw [ii6]; omega) (by rw [ii6]; omega), ii6]
  have s1 : (h * 6 + k).toInt = h.toInt * 6 + k.toInt := by rw [i32_add (by rw [m1]; omega) (by rw [m1]; omega), m1]
  have s2 : (h * 6 + k + 1).toInt = h.toInt * 6 + k.toInt + 1 := by rw [i32_add (by rw [s1, i32_1]; omega) (by rw [s1, i32_1]; omega), s1, i32_1]
  constructor
  · rw [tnc_d, s1, g1, g2]; omega
  · rw [tnc_d, s2, g1, g2]; omega
theorem add1_ix {n : Int32} (hn : iv 0 5 n) : (n + 1).toInt = n.toInt + 1 ∧ (n + 1).toNatClampNeg = n.toNatClampNeg + 1 := by
  have a1 := hn.1
  have a2 := hn.2
  have e : (n + 1).toInt = n.toInt + 1 := by rw [i32_add (by rw [i32_1]; omega) (by rw [i32_1]; omega), i32_1]
  refine ⟨e, ?_⟩
  rw [tnc_d, tnc_d, e]
  omega
theorem RS_core {z : StT} {r : Nat → Int32} {h k d n : Int32} (hS : RS z r) (hr : rOK r) (hh : iv 0 4 h) (en : cC (sC z) h.toNatClampNeg = n) (hn : iv 0 5 n) : RS (sC' z (m_X0_add (sC z) h k d)) (upd (upd (upd r (318 + 13 * h.toNatClampNeg + 1 + 2 * n.toNatClampNeg) k) (318 + 13 * h.toNatClampNeg + 2 + 2 * n.toNatClampNeg) d) (318 + 13 * h.toNatClampNeg) (n + 1)) := by
  have ok := hS.ok hr
  have hH := iv_tnc (n := 5) hh (by decide)
  have hN := iv_tnc (n := 6) hn (by decide)
  have a1 := add1_ix hn
  have ea : m_X0_add (sC z) h k d = cC' (cD' (cK' (sC z) (upd (cK (sC z)) (6 * h.toNatClampNeg + n.toNatClampNeg) k)) (upd (cD (sC z)) (6 * h.toNatClampNeg + n.toNatClampNeg) d)) (upd (cC (sC z)) h.toNatClampNeg (n + 1)) := by
    unfold m_X0_add
    rw [if_neg, en, (core_ix hh hn).1]
    unfold m_X0_hasRoom
    rw [if_neg (hold_nz hh), en, if_neg (by rw [i32_le, ii6]; have := hn.2; omega)]
    decide
  rw [ea]
  have far : ∀ j : Nat, (j < 318 ∨ (j ≠ 318 + 13 * h.toNatClampNeg + 1 + 2 * n.toNatClampNeg ∧ j ≠ 318 + 13 * h.toNatClampNeg + 2 + 2 * n.toNatClampNeg ∧ j ≠ 318 + 13 * h.toNatClampNeg)) → upd (upd (upd r (318 + 13 * h.toNatClampNeg + 1 + 2 * n.toNatClampNeg) k) (318 + 13 * h.toNatClampNeg + 2 + 2 * n.toNatClampNeg) d) (318 + 13 * h.toNatClampNeg) (n + 1) j = r j := fun j hj => by
    rw [pk_un (by omega), pk_un (by omega), pk_un (by omega)]
  refine ⟨rsU.fr (z := sU z) hS.1 (fun j hj => far j (by omega)) ok.1, ?_, rsD.fr (z := sD z) hS.2.2.1 (fun j hj => far j (by omega)), rsA.fr (z := sA z) hS.2.2.2.1 (fun j hj => far j (by omega)), rsS.fr (z := sS z) hS.2.2.2.2.1 (fun j hj => far j (by omega)), rsN.fr (z := z) hS.2.2.2.2.2 (fun j hj => far j (by omega))⟩
  intro x hx
  obtain ⟨b1, b2⟩ := hS.2.1 x hx
  have c6 := ok.2 x hx
  show _ = upd (cC (sC z)) h.toNatClampNeg (n + 1) x ∧ ∀ j : Nat, j < (upd (cC (sC z)) h.toNatClampNeg (n + 1) x).toNatClampNeg → _ = upd (cK (sC z)) (6 * h.toNatClampNeg + n.toNatClampNeg) k (6 * x + j) ∧ _ = upd (cD (sC z)) (6 * h.toNatClampNeg + n.toNatClampNeg) d (6 * x + j)
  by_cases e : x = h.toNatClampNeg
  · rw [e, pk_us, pk_us]
    refine ⟨rfl, fun j hj => ?_⟩
    rw [a1.2] at hj
    by_cases f : j = n.toNatClampNeg
    · rw [f]
      refine ⟨?_, ?_⟩
      · rw [pk_un (by omega), pk_un (by omega), pk_us, pk_us]
      · rw [pk_un (by omega), pk_us, pk_us]
    · rw [far _ (by omega), far _ (by omega), pk_un (by omega), pk_un (by omega), ← e]
      refine b2 j ?_
      rw [e, en]; omega
  · rw [far _ (by omega), pk_un e]
    refine ⟨b1, fun j hj => ?_⟩
    have j6 : j < 6 := by rw [tnc_d] at hj; omega
    rw [far _ (by omega), far _ (by omega), pk_un (by omega), pk_un (by omega)]
    exact b2 j hj
theorem BD_core {T : Int} {r : Nat → Int32} {h k d n : Int32} (hB : BD T r) (hh : iv 0 4 h) (hn : iv 0 5 n) (hd : 0 ≤ d.toInt) : BD T (upd (upd (upd r (318 + 13 * h.toNatClampNeg + 1 + 2 * n.toNatClampNeg) k) (318 + 13 * h.toNatClampNeg + 2 + 2 * n.toNatClampNeg) d) (318 + 13 * h.toNatClampNeg) (n + 1)) := by
  have hH := iv_tnc (n := 5) hh (by decide)
  have hN := iv_tnc (n := 6) hn (by decide)
  obtain ⟨b1, b2, b3, b4, b5, b6⟩ := hB
  have far : ∀ j : Nat, j < 318 → upd (upd (upd r (318 + 13 * h.toNatClampNeg + 1 + 2 * n.toNatClampNeg) k) (318 + 13 * h.toNatClampNeg + 2 + 2 * n.toNatClampNeg) d) (318 + 13 * h.toNatClampNeg) (n + 1) j = r j := fun j hj => by
    rw [pk_un (by omega), pk_un (by omega), pk_un (by omega)]
  refine ⟨?_, fun i hi => ?_, fun x hx q hq => ?_, ?_, fun u hu => ?_, fun x hx j hj => ?_⟩
  · rw [far _ (by omega)]; exact b1
  · rw [far _ (by omega)]; exact b2 i hi
  · rw [far _ (by omega)]; exact b3 x hx q hq
  · rw [far _ (by omega), far _ (by omega), far _ (by omega)]; exact b4
  · rw [far _ (by omega)]; exact b5 u hu
  · rw [pk_un (by omega)]
    by_cases e : 318 + 13 * x + 2 + 2 * j = 318 + 13 * h.toNatClampNeg + 2 + 2 * n.toNatClampNeg
    · rw [e, pk_us]; exact hd
    · rw [pk_un e, pk_un (by omega)]; exact b6 x hx j hj
theorem rok_core {r : Nat → Int32} {h k d n : Int32} (hr : rOK r) (hh : iv 0 4 h) (hn : iv 0 5 n) : rOK (upd (upd (upd r (318 + 13 * h.toNatClampNeg + 1 + 2 * n.toNatClampNeg) k) (318 + 13 * h.toNatClampNeg + 2 + 2 * n.toNatClampNeg) d) (318 + 13 * h.toNatClampNeg) (n + 1)) := by
  have hH := iv_tnc (n := 5) hh (by decide)
  have hN := iv_tnc (n := 6) hn (by decide)
  rw [← ix_cores hh]
  refine rok_cnt (rok_cslot (rok_cslot hr ?_) ?_) hh ?_
  · rw [ix_cores hh]; omega
  · rw [ix_cores hh]; omega
  · have a1 := add1_ix hn
    have := hn.1
    have := hn.2
    exact ⟨by omega, by omega⟩
theorem iv_p1 : iv 1 2 (1 : Int32) := iv_wide (iv_lit (v := 1) (by decide)) (by decide)
theorem iv_p2 : iv 1 2 (2 : Int32) := iv_wide (iv_lit (v := 2) (by decide)) (by decide)
theorem adv_row {r : Nat → Int32} {x1 x2 x3 n T0 E k : Int32} (hx : iv 0 4 x1) (hv : iv 0 15 x2) (en : r (318 + 13 * x1.toNatClampNeg) = n) (hn : iv 0 5 n) (e0 : r 0 = T0) (e7 : r 7 = E) (ek : m_X9_of r x2 0 = k) : m_X9_advanceOn r x1 x2 x3 = (T0 + x3, upd (m_X9_give (upd (upd (upd r (318 + 13 * x1.toNatClampNeg + 1 + 2 * n.toNatClampNeg) k) (318 + 13 * x1.toNatClampNeg + 2 + 2 * n.toNatClampNeg) (T0 + x3)) (318 + 13 * x1.toNatClampNeg) (n + 1)) x2 x1) 7 (E + 1)) := by
  have hH := iv_tnc (n := 5) hx (by decide)
  have hN := iv_tnc (n := 6) hn (by decide)
  unfold m_X9_advanceOn
  rw [ix_cores hx, en, ix_slot hx iv_p1 hn, ix_slot hx iv_p2 hn, kn1, kn2, kn0, kn7, ek]
  rw [pk_un (f := r) (j := 0) (by omega), e0]
  rw [pk_un (j := 318 + 13 * x1.toNatClampNeg) (k := 318 + 13 * x1.toNatClampNeg + 2 + 2 * n.toNatClampNeg) (by omega), pk_un (f := r) (j := 318 + 13 * x1.toNatClampNeg) (by omega), en]
  rw [give_far hv (by omega), pk_un (j := 7) (k := 318 + 13 * x1.toNatClampNeg) (by omega), pk_un (j := 7) (k := 318 + 13 * x1.toNatClampNeg + 2 + 2 * n.toNatClampNeg) (by omega), pk_un (f := r) (j := 7) (by omega), e7]
  rw [pk_un (j := 0) (k := 7) (by omega), give_far hv (by omega), pk_un (by omega), pk_un (by omega), pk_un (by omega), e0]
theorem a_advance {z : StT} {r : Nat → Int32} {T : Int} {x1 x2 x3 : Int32} (h : RS z r) (hr : rOK r) (hB : BD T r) (hT : T ≤ 10000000) : Act T z (m_X9_whyNotAdvance r x1 x2 x3) (m_X5_tryAdvance z x1 x2 x3) (m_X9_advanceOn r x1 x2 x3) es3 := by
  have ok := h.ok hr
  unfold m_X9_whyNotAdvance m_X5_tryAdvance
  rw [unit_eq h.1.1 ok.1, hold_eq, term_eq]
  by_cases c1 : m_X8_isHolder x1 = 0
  · rw [if_pos c1, if_pos c1]; exact Or.inr ⟨_, e31, rfl, rfl⟩
  rw [if_neg c1, if_neg c1]
  by_cases c2 : m_X7_has (sU z) x2 = 0
  · rw [if_pos c2, if_pos c2]; exact Or.inr ⟨_, e31, rfl, rfl⟩
  rw [if_neg c2, if_neg c2]
  by_cases c3 : m_X8_isTerm x3 = 0
  · rw [if_pos c3, if_pos c3]; exact Or.inr ⟨_, e32, rfl, rfl⟩
  rw [if_neg c3, if_neg c3]
  by_cases c4 : x1 = 4
  · rw [if_pos c4, if_pos c4]; exact Or.inr ⟨_, e33, rfl, rfl⟩
  have i1 := hold_iv c1
  have hH := iv_tnc (n := 5) i1 (by decide)
  rw [if_neg c4, if_neg c4, ix_cores i1, (h.2.1 _ hH).1, good_eq h.1 ok.1 c2]
  have c6 := ok.2 _ hH
  have hroom : m_X0_hasRoom (sC z) x1 = 0 ↔ cC (sC z) x1.toNatClampNeg = 6 := by
    unfold m_X0_hasRoom
    rw [if_neg c1]
    by_cases q : (6 : Int32) ≤ cC (sC z) x1.toNatClampNeg
    · rw [if_pos q]
      rw [i32_le, ii6] at q
      exact ⟨fun _ => i32_eq (by rw [ii6]; omega), fun _ => rfl⟩
    · rw [if_neg q]
      refine ⟨fun e => absurd e (by decide), fun e => ?_⟩
      rw [e] at q
      exact absurd (by decide) q
  by_cases c5 : cC (sC z) x1.toNatClampNeg = 6
  · rw [if_pos c5, if_pos (hroom.mpr c5)]; exact Or.inr ⟨_, e33, rfl, rfl⟩
  rw [if_neg c5, if_neg (fun q => c5 (hroom.mp q))]
  by_cases c7 : m_X7_isGoodSpare (sU z) x2 = 0
  · rw [if_pos c7, if_pos c7]; exact Or.inr ⟨_, e33, rfl, rfl⟩
  rw [if_neg c7, if_neg c7]
  have g := has_in ok.1 c2
  have hn : iv 0 5 (cC (sC z) x1.toNatClampNeg) := by
    refine ⟨c6.1, ?_⟩
    by_cases q : (cC (sC z) x1.toNatClampNeg).toInt = 6
    · exact absurd (i32_eq (by rw [ii6]; exact q)) c5
    · omega
  have t3 := term_iv c3
  have hb0 := hB.1
  have e0 := h.2.2.2.2.2.1
  rw [e0] at hb0
  have s1 : (sT z + x3).toInt = (sT z).toInt + x3.toInt := by
    have := t3.1
    have := t3.2
    exact i32_add (by omega) (by omega)
  have d0 : 0 ≤ (sT z + x3).toInt := by
    have := t3.1
    omega
  rw [adv_row i1 g.1 (h.2.1 _ hH).1 hn e0 h.2.2.2.2.2.2.2.1 (ru_k h.1 ok.1 c2)]
  have R1 := RS_core (k := uK (sU z) x2.toNatClampNeg) (d := sT z + x3) h hr i1 rfl hn
  have k1 := rok_core (k := uK (sU z) x2.toNatClampNeg) (d := sT z + x3) hr i1 hn
  have B1 := BD_core (k := uK (sU z) x2.toNatClampNeg) (d := sT z + x3) hB i1 hn d0
  have R2 := RS_give (x := x2) (v := x1) R1 k1 c2
  have k2 := rok_give k1 g.1 i1
  have B2 := BD_give (v := x1) B1 g.1
  have R3 := RS_exch (v := sX z + 1) R2 k2
  have ek : uK (m_X7_giveTo (sU z) x2 x1) = uK (sU z) := by
    unfold m_X7_giveTo
    rw [if_neg c2]; rfl
  rw [ek]
  exact Or.inl ⟨rfl, rfl, d0, R3, BD_up (BD_c B2 (by omega)) (by omega)⟩
/-- the oldest core of a kind -/
theorem old_tail {co : CoT} {h kd : Int32} (hkd : 0 ≤ kd.toInt) : ∀ (nF : Nat) (k : Int32), 0 ≤ k.toInt → cC co h.toNatClampNeg ≤ k → (6 - k.toInt).toNat < nF → m_X0_oldest_L2 nF co h kd k = -1 := by
  intro nF
  induction nF with
  | zero => intro k h0 hk hf; omega
  | succ nF ih =>
    intro k h0 hk hf
    rw [m_X0_oldest_L2]
    by_cases c : (6 : Int32) ≤ k
    · rw [if_pos c]
    · rw [if_neg c]
      have e : m_X0_kindOf co h k = -1 := by
        unfold m_X0_kindOf
        rw [if_pos]
        unfold m_X0_owes
        by_cases a : m_X8_isHolder h = 0
        · rw [if_pos a]
        · rw [if_neg a]
          by_cases b : k < 0
          · rw [if_pos b]
          · rw [if_neg b, if_pos hk]
      rw [if_neg (by intro q; rw [e] at q; rw [← q, im1] at hkd; omega)]
      have s := lp_s c
      rw [i32_le, ii6] at c
      refine ih (k + 1) (by omega) ?_ (by omega)
      rw [i32_le] at hk ⊢
      omega
theorem old_L {z : StT} {r : Nat → Int32} {h kd : Int32} (hS : RS z r) (hr : rOK r) (hh : iv 0 4 h) (hkd : 0 ≤ kd.toInt) : ∀ (nF : Nat) (k : Int32), 0 ≤ k.toInt → k.toInt ≤ 6 → (6 - k.toInt).toNat < nF → m_X0_oldest_L2 nF (sC z) h kd k = m_X9_oldest_L8 nF r h kd k := by
  have ok := hS.ok hr
  have hH := iv_tnc (n := 5) hh (by decide)
  have c6 := ok.2 _ hH
  obtain ⟨b1, b2⟩ := hS.2.1 _ hH
  intro nF
  induction nF with
  | zero => intro k h0 h6 hf; omega
  | succ nF ih =>
    intro k h0 h6 hf
    by_cases c : cC (sC z) h.toNatClampNeg ≤ k
    · rw [old_tail hkd _ _ h0 c hf, m_X9_oldest_L8, ix_cores hh, b1, if_pos c]
    · rw [m_X0_oldest_L2, m_X9_oldest_L8, ix_cores hh, b1, if_neg c]
      have c2 := c
      rw [i32_le] at c2
      have hk : iv 0 5 k := ⟨h0, by omega⟩
      have s := lp_s c
      rw [if_neg (by rw [i32_le, ii6]; omega), ix_slot hh iv_p1 hk, kn1, (b2 k.toNatClampNeg (by rw [tnc_d, tnc_d]; omega)).1]
      have e : m_X0_kindOf (sC z) h k = cK (sC z) (6 * h.toNatClampNeg + k.toNatClampNeg) := by
        unfold m_X0_kindOf
        rw [if_neg, (core_ix hh hk).1]
        unfold m_X0_owes
        rw [if_neg (hold_nz hh), if_neg (by rw [i32_lt, i32_0]; omega), if_neg c, if_neg (by rw [i32_le, ii6]; omega)]
        decide
      rw [e]
      by_cases f : cK (sC z) (6 * h.toNatClampNeg + k.toNatClampNeg) = kd
      · rw [if_pos f, if_pos f]
      · rw [if_neg f, if_neg f]
        exact ih (k + 1) (by omega) (by omega) (by omega)
theorem old_eq {z : StT} {r : Nat → Int32} {h kd : Int32} (hS : RS z r) (hr : rOK r) (hh : iv 0 4 h) (hkd : 0 ≤ kd.toInt) : m_X9_oldest r h kd = m_X0_oldest (sC z) h kd := by
  unfold m_X9_oldest m_X0_oldest
  exact (old_L hS hr hh hkd 100 0 (by decide) (by decide) (by decide)).symm
