/-- one round of the least count, reference and class -/
def cmM (r : Nat → Int32) (x1 x2 le p : Int32) : Int32 := if le ≤ (m_X9_completeOn_L18 100 r x1 x2 le p 0 0).1 then le else (m_X9_completeOn_L18 100 r x1 x2 le p 0 0).1
def cmC (un : UnT) (x1 x2 mo p : Int32) : Int32 := if mo ≤ (m_X7_mostCompleted_L18 100 un x1 x2 mo p 0 0).1 then mo else (m_X7_mostCompleted_L18 100 un x1 x2 mo p 0 0).1
theorem cmM_step (r : Nat → Int32) (x1 x2 : Int32) (nF : Nat) (le p : Int32) (hp : ¬ (3 : Int32) < p) : m_X9_completeOn_L6 (nF + 1) r x1 x2 le p = m_X9_completeOn_L6 nF r x1 x2 (cmM r x1 x2 le p) (p + 1) := by
  rw [m_X9_completeOn_L6, if_neg hp]
  unfold cmM
  by_cases c : le ≤ (m_X9_completeOn_L18 100 r x1 x2 le p 0 0).1
  · rw [if_pos c, if_pos c]
  · rw [if_neg c, if_neg c]
theorem min_sw {a b : Int32} : (if a < b then a else b) = if b ≤ a then b else a := by
  by_cases c : b ≤ a
  · rw [if_pos c, if_neg (by rw [i32_le] at c; rw [i32_lt]; omega)]
  · rw [if_neg c, if_pos (by rw [i32_le] at c; rw [i32_lt]; omega)]
theorem cmC_step (un : UnT) (x1 x2 : Int32) (nF : Nat) (mo p : Int32) (hp : ¬ (3 : Int32) ≤ p) : m_X7_mostCompleted_L6 (nF + 1) un x1 x2 mo p = m_X7_mostCompleted_L6 nF un x1 x2 (cmC un x1 x2 mo p) (p + 1) := by
  rw [m_X7_mostCompleted_L6, if_neg hp, min_sw]
  rfl
theorem s01 : (0 : Int32) + 1 = 1 := rfl
theorem s12 : (1 : Int32) + 1 = 2 := rfl
theorem s23 : (2 : Int32) + 1 = 3 := rfl
theorem s34 : (3 : Int32) + 1 = 4 := rfl
theorem cmM_eq (r : Nat → Int32) (x1 x2 : Int32) : m_X9_completeOn r x1 x2 = cmM r x1 x2 (cmM r x1 x2 (cmM r x1 x2 (cmM r x1 x2 16 0) 1) 2) 3 := by
  unfold m_X9_completeOn
  rw [cmM_step r x1 x2 99 16 0 (by decide), s01, cmM_step r x1 x2 98 _ 1 (by decide), s12, cmM_step r x1 x2 97 _ 2 (by decide), s23, cmM_step r x1 x2 96 _ 3 (by decide), s34, m_X9_completeOn_L6, if_pos (show (3 : Int32) < 4 by decide)]
theorem cmC_eq (un : UnT) (x1 x2 : Int32) : m_X7_mostCompleted un x1 x2 = cmC un x1 x2 (cmC un x1 x2 (cmC un x1 x2 16 0) 1) 2 := by
  unfold m_X7_mostCompleted
  rw [cmC_step un x1 x2 99 16 0 (by decide), s01, cmC_step un x1 x2 98 _ 1 (by decide), s12, cmC_step un x1 x2 97 _ 2 (by decide), s23, m_X7_mostCompleted_L6, if_pos (show (3 : Int32) ≤ 3 by decide)]
section Q2
variable {z : StT} {r : Nat → Int32}
/-! how many could be completed -/
theorem cm_in {x1 x2 mo le pt : Int32} (h : RS z r) (hr : rOK r) (hp : iv 0 2 pt) : ∀ (nF : Nat) (n u : Int32), 0 ≤ u.toInt → (m_X9_completeOn_L18 nF r x1 x2 le pt n u).1 = (m_X7_mostCompleted_L18 nF (sU z) x1 x2 mo pt n u).1 := by
  have ok := h.ok hr
  intro nF
  induction nF with
  | zero => intro n u h0; rfl
  | succ nF ih =>
    intro n u h0
    rw [m_X9_completeOn_L18, m_X7_mostCompleted_L18, kn1, h.1.1]
    by_cases c : uN (sU z) ≤ u
    · rw [if_pos c, if_pos c]
    · have hs := has_of h0 c
      have iu := u_iv h hr hs
      have b := bit_eq iu.2.2.2 hp
      have n3 : ¬ pt = 3 := fun e => by have := hp.2; rw [e, ii3] at this; omega
      rw [if_neg c, if_neg c, ru_q h.1 ok.1 hs, if_neg n3]
      unfold m_X9_isAt m_X7_isOfKindAt m_X7_hasPart
      rw [if_neg hs, if_neg hs, ru_p h.1 ok.1 hs, ru_k h.1 ok.1 hs]
      by_cases a1 : uP (sU z) u.toNatClampNeg = x1
      · by_cases a2 : uK (sU z) u.toNatClampNeg = x2
        · rw [if_pos a1, if_pos a2, if_pos a2, if_pos a1, if_neg (show ¬ (1 : Int32) = 0 by decide), if_neg (show ¬ (1 : Int32) = 0 by decide)]
          by_cases a3 : uQ (sU z) u.toNatClampNeg &&& ((1 : Int32) <<< (pt &&& (31 : Int32))) = 0
          · rw [if_pos a3, if_pos rfl, if_neg (fun e => b.1.mp e a3)]
            exact ih _ _ (lp_up h0 c)
          · rw [if_pos (b.1.mpr a3), if_neg a3, if_neg (show ¬ (1 : Int32) = 0 by decide)]
            exact ih _ _ (lp_up h0 c)
        · rw [if_pos a1, if_neg a2, if_neg a2, if_pos rfl, if_pos rfl]
          exact ih _ _ (lp_up h0 c)
      · rw [if_neg a1]
        by_cases a2 : uK (sU z) u.toNatClampNeg = x2
        · rw [if_pos a2, if_neg a1, if_pos rfl, if_pos rfl]
          exact ih _ _ (lp_up h0 c)
        · rw [if_neg a2, if_pos rfl, if_pos rfl]
          exact ih _ _ (lp_up h0 c)
/-- all that are there are no less than those with a part -/
theorem cm_mono {x1 x2 le pt : Int32} (hr : rOK r) (hp : iv 0 2 pt) : ∀ (nF : Nat) (n n2 u : Int32), 0 ≤ u.toInt → 0 ≤ n.toInt → n.toInt ≤ n2.toInt → n2.toInt ≤ u.toInt → u.toInt ≤ (r 1).toInt → ((r 1).toInt - u.toInt).toNat < nF →
    0 ≤ (m_X9_completeOn_L18 nF r x1 x2 le pt n u).1.toInt ∧ (m_X9_completeOn_L18 nF r x1 x2 le pt n u).1.toInt ≤ (m_X9_completeOn_L18 nF r x1 x2 le 3 n2 u).1.toInt ∧ (m_X9_completeOn_L18 nF r x1 x2 le 3 n2 u).1.toInt ≤ 16 := by
  have n3 : ¬ pt = 3 := fun e => by have := hp.2; rw [e, ii3] at this; omega
  have h16 := hr.1
  intro nF
  induction nF with
  | zero => intro n n2 u h0 h1 h2 h3 h4 hf; omega
  | succ nF ih =>
    intro n n2 u h0 h1 h2 h3 h4 hf
    have u16 := h16.2
    have sn : (n + 1).toInt = n.toInt + 1 := by rw [i32_add (by rw [i32_1]; omega) (by rw [i32_1]; omega), i32_1]
    have sn2 : (n2 + 1).toInt = n2.toInt + 1 := by rw [i32_add (by rw [i32_1]; omega) (by rw [i32_1]; omega), i32_1]
    rw [m_X9_completeOn_L18, m_X9_completeOn_L18, kn1]
    by_cases c : r 1 ≤ u
    · rw [if_pos c, if_pos c]
      show 0 ≤ n.toInt ∧ n.toInt ≤ n2.toInt ∧ n2.toInt ≤ 16
      omega
    · have s := lp_s c
      have c2 := c
      rw [i32_le] at c2
      rw [if_neg c, if_neg c, if_neg n3]
      have z1 : n + 0 = n := Int32.add_zero n
      have z2 : n2 + 0 = n2 := Int32.add_zero n2
      by_cases a : m_X9_isAt r u x1 x2 = 0
      · rw [if_pos a, if_pos a, z1, z2]
        exact ih _ _ _ (by omega) h1 h2 (by omega) (by omega) (by omega)
      · rw [if_neg a, if_neg a, if_pos rfl]
        by_cases b : ((m_X9_of r u 3 >>> (pt &&& (31 : Int32))) &&& (1 : Int32)) = 1
        · rw [if_pos b]
          exact ih _ _ _ (by omega) (by omega) (by omega) (by omega) (by omega) (by omega)
        · rw [if_neg b, z1]
          exact ih _ _ _ (by omega) h1 (by omega) (by omega) (by omega) (by omega)
theorem cm_same {x1 x2 le p : Int32} (h : RS z r) (hr : rOK r) (hp : iv 0 2 p) : cmM r x1 x2 le p = cmC (sU z) x1 x2 le p := by
  unfold cmM cmC
  rw [cm_in (mo := le) h hr hp 100 0 0 (by decide)]
theorem complete_eq {x1 x2 : Int32} (h : RS z r) (hr : rOK r) : m_X9_completeOn r x1 x2 = m_X7_mostCompleted (sU z) x1 x2 ∧ iv 0 16 (m_X7_mostCompleted (sU z) x1 x2) := by
  have p0 : iv 0 2 (0 : Int32) := iv_wide iv_0 (by decide)
  have p1 : iv 0 2 (1 : Int32) := iv_wide (iv_lit (v := 1) (by decide)) (by decide)
  have p2 : iv 0 2 (2 : Int32) := iv_wide (iv_lit (v := 2) (by decide)) (by decide)
  have i0 := i32_0
  have h16 := hr.1
  have g := fun (le p : Int32) (hp : iv 0 2 p) => cm_mono (x1 := x1) (x2 := x2) (le := le) (pt := p) hr hp 100 0 0 0 (by decide) (by decide) (by decide) (by decide) (by rw [i0]; exact h16.1) (by have := h16.2; rw [i0]; omega)
  have rng : ∀ le p : Int32, iv 0 2 p → iv 0 16 le → iv 0 16 (cmM r x1 x2 le p) := fun le p hp hl => by
    unfold cmM
    have q := g le p hp
    by_cases c : le ≤ (m_X9_completeOn_L18 100 r x1 x2 le p 0 0).1
    · rw [if_pos c]; exact hl
    · rw [if_neg c]; exact ⟨q.1, by omega⟩
  have i16 : iv 0 16 (16 : Int32) := iv_wide (iv_lit (v := 16) (by decide)) (by decide)
  have last : ∀ le : Int32, iv 0 16 le → cmM r x1 x2 (cmM r x1 x2 le 2) 3 = cmM r x1 x2 le 2 := fun le hl => by
    have w : cmM r x1 x2 le 2 ≤ (m_X9_completeOn_L18 100 r x1 x2 (cmM r x1 x2 le 2) 3 0 0).1 := by
      have q := g (cmM r x1 x2 le 2) 2 p2
      have e1 := cm_in (x1 := x1) (x2 := x2) (mo := 0) (le := le) h hr p2 100 0 0 (by decide)
      have e2 := cm_in (x1 := x1) (x2 := x2) (mo := 0) (le := cmM r x1 x2 le 2) h hr p2 100 0 0 (by decide)
      have e3 : cmM r x1 x2 le 2 ≤ (m_X9_completeOn_L18 100 r x1 x2 le 2 0 0).1 := by
        unfold cmM
        by_cases c : le ≤ (m_X9_completeOn_L18 100 r x1 x2 le 2 0 0).1
        · rw [if_pos c]; exact c
        · rw [if_neg c, i32_le]; omega
      rw [e1, ← e2] at e3
      rw [i32_le] at e3 ⊢
      omega
    show (if _ then _ else _) = _
    rw [if_pos w]
  rw [cmM_eq, cmC_eq, last _ (rng _ _ p1 (rng _ _ p0 i16)), cm_same h hr p2, cm_same h hr p1, cm_same h hr p0]
  refine ⟨rfl, ?_⟩
  rw [← cm_same h hr p0, ← cm_same h hr p1, ← cm_same h hr p2]
  exact rng _ _ p2 (rng _ _ p1 (rng _ _ p0 i16))
end Q2
