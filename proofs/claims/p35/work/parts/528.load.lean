/-! a new start; errorPosition, load -/
theorem cd_L2 : ∀ (nF : Nat) (r : Nat → Int32) (a : Nat), a ≤ 225 → 225 - a < nF → (∀ j, j < a → r j = 0) → ∀ i : Int32, i.toInt = a → ∀ j, j < 225 → m_X1_clear_L2 nF r i j = 0 := by
  intro nF
  induction nF with
  | zero => intro r a h1 h2; omega
  | succ nF ih =>
    intro r a h1 h2 h3 i hi j hj
    rw [m_X1_clear_L2]
    have e5 : (225 : Int32).toInt = 225 := by decide
    by_cases c : (225 : Int32) ≤ i
    · rw [if_pos c]
      rw [i32_le, e5, hi] at c
      exact h3 j (by omega)
    · rw [if_neg c]
      have c2 := c
      rw [i32_le, e5, hi] at c2
      have hn : i.toNatClampNeg = a := by
        rw [tnc_d]
        omega
      refine ih _ (a + 1) (by omega) (by omega) (fun k hk => ?_) (i + 1) (by rw [lp_s c, hi]; rfl) j hj
      rw [hn]
      by_cases g : k = a
      · rw [g, pk_us]
      · rw [pk_un g]; exact h3 k (by omega)
theorem an_L : ∀ (nF : Nat) (r : StT) (a : Nat), a ≤ 5 → 5 - a < nF → (∀ j, j < a → sA r j = 0) → ∀ i : Int32, i.toInt = a → sD (m_X5_startAnew_L24 nF r i) = sD r ∧ (∀ j, j < 5 → sA (m_X5_startAnew_L24 nF r i) j = 0) ∧ (∀ j, j < 3 → sS (m_X5_startAnew_L24 nF r i) j = fxF j) ∧ sT (m_X5_startAnew_L24 nF r i) = 0 ∧ sK (m_X5_startAnew_L24 nF r i) = 0 ∧ sX (m_X5_startAnew_L24 nF r i) = 0 ∧ sO (m_X5_startAnew_L24 nF r i) = 0 := by
  intro nF
  induction nF with
  | zero => intro r a h1 h2; omega
  | succ nF ih =>
    intro r a h1 h2 h3 i hi
    rw [m_X5_startAnew_L24]
    by_cases c : (5 : Int32) ≤ i
    · rw [if_pos c]
      rw [i32_le, ii5, hi] at c
      refine ⟨rfl, fun j hj => h3 j (by omega), fun j hj => ?_, rfl, rfl, rfl, rfl⟩
      show va_cpy fxF (sS r) (0 : Int32).toNatClampNeg (0 : Int32).toNatClampNeg (3 : Int32).toNatClampNeg j = fxF j
      rw [kn0, kn3]
      unfold va_cpy
      rw [if_pos (by omega)]
      congr 1
      omega
    · rw [if_neg c]
      have c2 := c
      rw [i32_le, ii5, hi] at c2
      have hn : i.toNatClampNeg = a := by
        rw [tnc_d]
        omega
      exact ih (sA' r (upd (sA r) i.toNatClampNeg 0)) (a + 1) (by omega) (by omega) (fun k hk => by
        show upd (sA r) i.toNatClampNeg 0 k = 0
        rw [hn]
        by_cases g : k = a
        · rw [g, pk_us]
        · rw [pk_un g]; exact h3 k (by omega)) (i + 1) (by rw [lp_s c, hi]; rfl)
theorem bg_at (r : Nat → Int32) (j : Nat) (hj : j < 383) : m_X9_begin r j = if j = 4 then 20 else if j = 3 then 100 else if j = 2 then 5 else 0 := by
  rw [bg_eq]
  by_cases a : j = 4
  · rw [if_pos a, a, pk_us]
  rw [if_neg a, pk_un a]
  by_cases b : j = 3
  · rw [if_pos b, b, pk_us]
  rw [if_neg b, pk_un b]
  by_cases c : j = 2
  · rw [if_pos c, c, pk_us]
  rw [if_neg c, pk_un c]
  exact if_pos hj
theorem bg_0 (r : Nat → Int32) (j : Nat) (hj : j < 383) (h : j < 2 ∨ 4 < j) : m_X9_begin r j = 0 := by
  rw [bg_at r j hj, if_neg (by omega), if_neg (by omega), if_neg (by omega)]
theorem RS_anew (st : StT) (r : Nat → Int32) : RS (m_X5_startAnew st) (m_X9_begin r) := by
  have g := an_L 100 (sD' (sC' (sU' st (uN' (sU st) (0 : Int32))) (m_X0_clear (sC st))) (m_X1_clear (sD st))) 0 (by omega) (by omega) (fun j h => by omega) 0 (by decide)
  have e : m_X5_startAnew_L24 100 (sD' (sC' (sU' st (uN' (sU st) (0 : Int32))) (m_X0_clear (sC st))) (m_X1_clear (sD st))) 0 = m_X5_startAnew st := rfl
  rw [e] at g
  obtain ⟨g1, g2, g3, g4, g5, g6, g7⟩ := g
  refine ⟨⟨?_, fun u hu => ?_⟩, fun h hh => ⟨?_, fun k hk => ?_⟩, fun i hi => ?_, fun h hh => ?_, fun i hi => ?_, ?_, ?_, ?_, ?_⟩
  · rw [an_uN, bg_0 _ _ (by omega) (by omega)]
  · rw [an_uN, kn0] at hu
    omega
  · rw [an_cC, m_X0_clear, ca_L2 100 _ 0 (by omega) (by omega) (fun j h => by omega) 0 (by decide) h hh, bg_0 _ _ (by omega) (by omega)]
  · rw [an_cC, m_X0_clear, ca_L2 100 _ 0 (by omega) (by omega) (fun j h => by omega) 0 (by decide) h hh, kn0] at hk
    omega
  · rw [g1, sD_sD', m_X1_clear, cd_L2 1000 _ 0 (by omega) (by omega) (fun j h => by omega) 0 (by decide) i hi, bg_0 _ _ (by omega) (by omega)]
  · rw [g2 h hh, bg_0 _ _ (by omega) (by omega)]
  · rw [g3 i hi, bg_at _ _ (by omega)]
    have : i = 0 ∨ i = 1 ∨ i = 2 := by omega
    rcases this with q | q | q
    · subst q; rfl
    · subst q; rfl
    · subst q; rfl
  · rw [g4, bg_0 _ _ (by omega) (by omega)]
  · rw [g5, bg_0 _ _ (by omega) (by omega)]
  · rw [g6, bg_0 _ _ (by omega) (by omega)]
  · rw [g7, bg_0 _ _ (by omega) (by omega)]
theorem BD_begin (r : Nat → Int32) : BD 0 (m_X9_begin r) := by
  refine ⟨?_, fun i hi => ?_, fun x hx q hq => ?_, ⟨?_, ?_, ?_⟩, fun u hu => ?_, fun x hx k hk => ?_⟩
  · rw [bg_0 _ _ (by omega) (by omega)]; decide
  · rw [bg_0 _ _ (by omega) (by omega)]; decide
  · rw [bg_0 _ _ (by omega) (by omega)]
  · rw [bg_at _ _ (by omega)]; exact ⟨by decide, by decide⟩
  · rw [bg_at _ _ (by omega)]; exact ⟨by decide, by decide⟩
  · rw [bg_at _ _ (by omega)]; exact ⟨by decide, by decide⟩
  · rw [bg_0 _ _ (by omega) (by omega)]; decide
  · rw [bg_0 _ _ (by omega) (by omega)]; decide
theorem fe_SL (nF : Nat) : ∀ (r : TxT) (a : Int32), tS (m_X6_firstError_L22 nF r a).2 = tS r := by
  induction nF with
  | zero => intro r a; rfl
  | succ nF ih =>
    intro r a
    rw [m_X6_firstError_L22]
    repeat' split
    all_goals first
      | rfl
      | exact rc_S _ _
      | (rw [ih]; exact rc_S _ _)
theorem fe_S (tx : TxT) : tS (m_X6_firstError tx).2 = tS tx := by
  unfold m_X6_firstError
  repeat' split
  all_goals first
    | rfl
    | exact fe_SL _ _ _
theorem fe_L (tx : TxT) : tL (m_X6_firstError tx).2 = tL tx := by
  unfold m_X6_firstError
  repeat' split
  all_goals first
    | rfl
    | exact fe_TL _ _ _
/-- errorPosition alike; and what a good text does -/
theorem text_eq {tx : TxT} {mo : MoT} (hS : tS tx = mT mo) (hL : tL tx = mZ mo) (hZ : iv 0 120 (mZ mo)) :
    (m_X6_firstError tx).1 = (m_X9_readText mo).1 ∧ (∃ (W : Nat → Int32) (P O : Int32), (m_X9_readText mo).2 = mO' (mP' (mW' mo W) P) O) ∧
    ∀ (z : SpT), tS (pT z) = mT mo → tL (pT z) = mZ mo → (∃ st : StT, pN z = m_X5_startAnew st) → (m_X9_readText mo).1 = -1 →
      (m_X8_doText z).1 = mO (m_X9_readText mo).2 ∧ RS (pN (m_X8_doText z).2) (mW (m_X9_readText mo).2) ∧ BD 100000 (mW (m_X9_readText mo).2) ∧ tS (pT (m_X8_doText z).2) = mT mo ∧ tL (pT (m_X8_doText z).2) = mZ mo ∧ pA (m_X8_doText z).2 = pA z ∧ pB (m_X8_doText z).2 = pB z ∧ pH (m_X8_doText z).2 = pH z ∧ pV (m_X8_doText z).2 = pV z := by
  have hz2 := hZ.2
  have hz1 := hZ.1
  unfold m_X6_firstError m_X9_readText m_X8_doText
  generalize hn : 1000 = nF
  have b1 := bg_rok (mW mo)
  have b2 := fun st => RS_anew st (mW mo)
  have b3 := BD_begin (mW mo)
  generalize m_X9_begin (mW mo) = W0 at *
  rw [hL, hS]
  by_cases c0 : mZ mo = 0
  · rw [if_pos c0, if_pos c0]
    refine ⟨rfl, ⟨_, _, _, rfl⟩, fun z zS zL zN q => ?_⟩
    exact absurd q (by show ¬ (0 : Int32) = -1; decide)
  rw [if_neg c0, if_neg c0]
  by_cases c1 : (mT mo) (0 : Int32).toNatClampNeg = 85
  · rw [if_pos c1, if_pos c1]
    have zp : 1 ≤ (mZ mo).toInt := by
      by_cases q : (mZ mo).toInt = 0
      · exact absurd (i32_eq (by rw [q, i32_0])) c0
      · omega
    obtain ⟨k1, ⟨W, P, O, k2⟩, k3⟩ := text_L nF tx (mP' (mO' (mW' mo W0) 0) 1) hS hL hZ (by show 0 ≤ (1 : Int32).toInt; decide) (by show (1 : Int32).toInt ≤ (mZ mo).toInt; rw [i32_1]; exact zp) (by show ((mZ mo).toInt - (1 : Int32).toInt).toNat < nF; rw [i32_1]; omega) b1
    refine ⟨k1, ⟨W, P, O, by rw [k2]; rfl⟩, fun z zS zL zN q => ?_⟩
    obtain ⟨st, zN⟩ := zN
    exact k3 z 0 zS zL (by rw [zN]; exact b2 st) b3 (by show (0 : Int) + 99 * ((mZ mo).toInt - (1 : Int32).toInt) ≤ 100000; rw [i32_1]; omega) q
  · rw [if_neg c1, if_neg c1]
    refine ⟨rfl, ⟨_, _, _, rfl⟩, fun z zS zL zN q => ?_⟩
    exact absurd q (by show ¬ (0 : Int32) = -1; decide)
