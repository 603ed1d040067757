def m_X9_readCommand_L304 (mo : MoT) (rr : MoT) (a : Int32) (b : Int32) (c_ : Int32) : Int32 × MoT := if a = (-1 : Int32) then ((0 : Int32), rr) else if b = (-1 : Int32) then ((0 : Int32), rr) else if c_ = (-1 : Int32) then ((0 : Int32), rr) else if (m_X9_does (mW rr) ((mT mo) (mP mo).toNatClampNeg) a b c_).1 = (0 : Int32) then ((1 : Int32), mO' (mW' rr (m_X9_does (mW rr) ((mT mo) (mP mo).toNatClampNeg) a b c_).2) ((mO rr) + (1 : Int32))) else ((1 : Int32), mO' (mW' rr (m_X9_does (mW rr) ((mT mo) (mP mo).toNatClampNeg) a b c_).2) ((mO rr) + (0 : Int32)))
def m_X9_readCommand (mo : MoT) : Int32 × MoT := if ((mT mo) (mP mo).toNatClampNeg) = (100 : Int32) then m_X9_readCommand_L304 mo (m_X9_number (mP' mo ((mP mo) + (1 : Int32))) (1 : Int32) (1 : Int32) (9 : Int32)).2 (m_X9_number (mP' mo ((mP mo) + (1 : Int32))) (1 : Int32) (1 : Int32) (9 : Int32)).1 (0 : Int32) (0 : Int32) else if ((mT mo) (mP mo).toNatClampNeg) = (108 : Int32) then if (m_X9_number (mP' mo ((mP mo) + (1 : Int32))) (2 : Int32) (0 : Int32) (15 : Int32)).1 = (-1 : Int32) then m_X9_readCommand_L304 mo (m_X9_number (mP' mo ((mP mo) + (1 : Int32))) (2 : Int32) (0 : Int32) (15 : Int32)).2 (m_X9_number (mP' mo ((mP mo) + (1 : Int32))) (2 : Int32) (0 : Int32) (15 : Int32)).1 (-1 : Int32) (-1 : Int32) else if (m_X9_number (m_X9_number (mP' mo ((mP mo) + (1 : Int32))) (2 : Int32) (0 : Int32) (15 : Int32)).2 (1 : Int32) (0 : Int32) (4 : Int32)).1 = (-1 : Int32) then m_X9_readCommand_L304 mo (m_X9_number (m_X9_number (mP' mo ((mP mo) + (1 : Int32))) (2 : Int32) (0 : Int32) (15 : Int32)).2 (1 : Int32) (0 : Int32) (4 : Int32)).2 (m_X9_number (mP' mo ((mP mo) + (1 : Int32))) (2 : Int32) (0 : Int32) (15 : Int32)).1 (m_X9_number (m_X9_number (mP' mo ((mP mo) + (1 : Int32))) (2 : Int32) (0 : Int32) (15 : Int32)).2 (1 : Int32) (0 : Int32) (4 : Int32)).1 (-1 : Int32) else m_X9_readCommand_L304 mo (m_X9_number (m_X9_number (m_X9_number (mP' mo ((mP mo) + (1 : Int32))) (2 : Int32) (0 : Int32) (15 : Int32)).2 (1 : Int32) (0 : Int32) (4 : Int32)).2 (2 : Int32) (1 : Int32) (30 : Int32)).2 (m_X9_number (mP' mo ((mP mo) + (1 : Int32))) (2 : Int32) (0 : Int32) (15 : Int32)).1 (m_X9_number (m_X9_number (mP' mo ((mP mo) + (1 : Int32))) (2 : Int32) (0 : Int32) (15 : Int32)).2 (1 : Int32) (0 : Int32) (4 : Int32)).1 (m_X9_number (m_X9_number (m_X9_number (mP' mo ((mP mo) + (1 : Int32))) (2 : Int32) (0 : Int32) (15 : Int32)).2 (1 : Int32) (0 : Int32) (4 : Int32)).2 (2 : Int32) (1 : Int32) (30 : Int32)).1 else if ((mT mo) (mP mo).toNatClampNeg) = (110 : Int32) then if (m_X9_number (mP' mo ((mP mo) + (1 : Int32))) (1 : Int32) (0 : Int32) (2 : Int32)).1 = (-1 : Int32) then m_X9_readCommand_L304 mo (m_X9_number (mP' mo ((mP mo) + (1 : Int32))) (1 : Int32) (0 : Int32) (2 : Int32)).2 (m_X9_number (mP' mo ((mP mo) + (1 : Int32))) (1 : Int32) (0 : Int32) (2 : Int32)).1 (-1 : Int32) (-1 : Int32) else if (m_X9_number (m_X9_number (mP' mo ((mP mo) + (1 : Int32))) (1 : Int32) (0 : Int32) (2 : Int32)).2 (1 : Int32) (0 : Int32) (4 : Int32)).1 = (-1 : Int32) then m_X9_readCommand_L304 mo (m_X9_number (m_X9_number (mP' mo ((mP mo) + (1 : Int32))) (1 : Int32) (0 : Int32) (2 : Int32)).2 (1 : Int32) (0 : Int32) (4 : Int32)).2 (m_X9_number (mP' mo ((mP mo) + (1 : Int32))) (1 : Int32) (0 : Int32) (2 : Int32)).1 (m_X9_number (m_X9_number (mP' mo ((mP mo) + (1 : Int32))) (1 : Int32) (0 : Int32) (2 : Int32)).2 (1 : Int32) (0 : Int32) (4 : Int32)).1 (-1 : Int32) else m_X9_readCommand_L304 mo (m_X9_number (m_X9_number (m_X9_number (mP' mo ((mP mo) + (1 : Int32))) (1 : Int32) (0 : Int32) (2 : Int32)).2 (1 : Int32) (0 : Int32) (4 : Int32)).2 (1 : Int32) (0 : Int32) (7 : Int32)).2 (m_X9_number (mP' mo ((mP mo) + (1 : Int32))) (1 : Int32) (0 : Int32) (2 : Int32)).1 (m_X9_number (m_X9_number (mP' mo ((mP mo) + (1 : Int32))) (1 : Int32) (0 : Int32) (2 : Int32)).2 (1 : Int32) (0 : Int32) (4 : Int32)).1 (m_X9_number (m_X9_number (m_X9_number (mP' mo ((mP mo) + (1 : Int32))) (1 : Int32) (0 : Int32) (2 : Int32)).2 (1 : Int32) (0 : Int32) (4 : Int32)).2 (1 : Int32) (0 : Int32) (7 : Int32)).1 else if ((mT mo) (mP mo).toNatClampNeg) = (114 : Int32) then m_X9_readCommand_L304 mo (m_X9_number (mP' mo ((mP mo) + (1 : Int32))) (2 : Int32) (0 : Int32) (15 : Int32)).2 (m_X9_number (mP' mo ((mP mo) + (1 : Int32))) (2 : Int32) (0 : Int32) (15 : Int32)).1 (0 : Int32) (0 : Int32) else if ((mT mo) (mP mo).toNatClampNeg) = (116 : Int32) then if (m_X9_number (mP' mo ((mP mo) + (1 : Int32))) (2 : Int32) (0 : Int32) (15 : Int32)).1 = (-1 : Int32) then m_X9_readCommand_L304 mo (m_X9_number (mP' mo ((mP mo) + (1 : Int32))) (2 : Int32) (0 : Int32) (15 : Int32)).2 (m_X9_number (mP' mo ((mP mo) + (1 : Int32))) (2 : Int32) (0 : Int32) (15 : Int32)).1 (-1 : Int32) (-1 : Int32) else if (m_X9_number (m_X9_number (mP' mo ((mP mo) + (1 : Int32))) (2 : Int32) (0 : Int32) (15 : Int32)).2 (2 : Int32) (0 : Int32) (15 : Int32)).1 = (-1 : Int32) then m_X9_readCommand_L304 mo (m_X9_number (m_X9_number (mP' mo ((mP mo) + (1 : Int32))) (2 : Int32) (0 : Int32) (15 : Int32)).2 (2 : Int32) (0 : Int32) (15 : Int32)).2 (m_X9_number (mP' mo ((mP mo) + (1 : Int32))) (2 : Int32) (0 : Int32) (15 : Int32)).1 (m_X9_number (m_X9_number (mP' mo ((mP mo) + (1 : Int32))) (2 : Int32) (0 : Int32) (15 : Int32)).2 (2 : Int32) (0 : Int32) (15 : Int32)).1 (-1 : Int32) else m_X9_readCommand_L304 mo (m_X9_number (m_X9_number (m_X9_number (mP' mo ((mP mo) + (1 : Int32))) (2 : Int32) (0 : Int32) (15 : Int32)).2 (2 : Int32) (0 : Int32) (15 : Int32)).2 (1 : Int32) (0 : Int32) (2 : Int32)).2 (m_X9_number (mP' mo ((mP mo) + (1 : Int32))) (2 : Int32) (0 : Int32) (15 : Int32)).1 (m_X9_number (m_X9_number (mP' mo ((mP mo) + (1 : Int32))) (2 : Int32) (0 : Int32) (15 : Int32)).2 (2 : Int32) (0 : Int32) (15 : Int32)).1 (m_X9_number (m_X9_number (m_X9_number (mP' mo ((mP mo) + (1 : Int32))) (2 : Int32) (0 : Int32) (15 : Int32)).2 (2 : Int32) (0 : Int32) (15 : Int32)).2 (1 : Int32) (0 : Int32) (2 : Int32)).1 else if ((mT mo) (mP mo).toNatClampNeg) = (120 : Int32) then if (m_X9_number (mP' mo ((mP mo) + (1 : Int32))) (2 : Int32) (0 : Int32) (15 : Int32)).1 = (-1 : Int32) then m_X9_readCommand_L304 mo (m_X9_number (mP' mo ((mP mo) + (1 : Int32))) (2 : Int32) (0 : Int32) (15 : Int32)).2 (m_X9_number (mP' mo ((mP mo) + (1 : Int32))) (2 : Int32) (0 : Int32) (15 : Int32)).1 (-1 : Int32) (0 : Int32) else m_X9_readCommand_L304 mo (m_X9_number (m_X9_number (mP' mo ((mP mo) + (1 : Int32))) (2 : Int32) (0 : Int32) (15 : Int32)).2 (2 : Int32) (0 : Int32) (15 : Int32)).2 (m_X9_number (mP' mo ((mP mo) + (1 : Int32))) (2 : Int32) (0 : Int32) (15 : Int32)).1 (m_X9_number (m_X9_number (mP' mo ((mP mo) + (1 : Int32))) (2 : Int32) (0 : Int32) (15 : Int32)).2 (2 : Int32) (0 : Int32) (15 : Int32)).1 (0 : Int32) else ((0 : Int32), mP' mo (((mP mo) + (1 : Int32)) - (1 : Int32)))
theorem rc_cut (mo rr : MoT) (a b c : Int32) : mP (m_X9_readCommand_L304 mo rr a b c).2 = mP rr ∧ mZ (m_X9_readCommand_L304 mo rr a b c).2 = mZ rr ∧ (rOK (mW rr) → rOK (mW (m_X9_readCommand_L304 mo rr a b c).2)) := by
  unfold m_X9_readCommand_L304
  repeat' split
  all_goals first
    | exact ⟨rfl, rfl, fun h => h⟩
    | exact ⟨rfl, rfl, fun h => rok_does h⟩
/-- what a command that was read leaves: the place within the text, behind where it was if it was one -/
def rcOK (mo : MoT) (x : Int32 × MoT) : Prop := txtOK x.2 ∧ rOK (mW x.2) ∧ mZ x.2 = mZ mo ∧ (¬ x.1 = 0 → (mP mo).toInt + 1 ≤ (mP x.2).toInt)
theorem rcOK_ite {mo : MoT} {P : Prop} [Decidable P] {a b : Int32 × MoT} (ha : P → rcOK mo a) (hb : ¬ P → rcOK mo b) : rcOK mo (if P then a else b) := by
  by_cases h : P
  · rw [if_pos h]; exact ha h
  · rw [if_neg h]; exact hb h
theorem nb_sp {mo : MoT} (h : txtOK mo) (hs : ¬ mZ mo ≤ mP mo) : (mP mo + 1).toInt = (mP mo).toInt + 1 := by
  rw [i32_le] at hs
  have := h.1.1
  have := h.2.2
  rw [i32_add (by rw [i32_1]; omega) (by rw [i32_1]; omega), i32_1]
def rcK (mo rr : MoT) : Prop := txtOK rr ∧ rOK (mW rr) ∧ mZ rr = mZ mo ∧ (mP mo).toInt + 1 ≤ (mP rr).toInt
theorem rc_ok {mo : MoT} (hT : txtOK mo) (hs : ¬ mZ mo ≤ mP mo) (hW : rOK (mW mo)) : rcOK mo (m_X9_readCommand mo) := by
  have t1 : txtOK (mP' mo (mP mo + 1)) := nb_up hT hs
  have e1 := nb_sp hT hs
  have cut : ∀ (rr : MoT) (a b c : Int32), rcK mo rr → rcOK mo (m_X9_readCommand_L304 mo rr a b c) := by
    intro rr a b c ⟨h1, h2, h3, h4⟩
    obtain ⟨g1, g2, g3⟩ := rc_cut mo rr a b c
    refine ⟨⟨by rw [g1]; exact h1.1, by rw [g2]; exact h1.2⟩, g3 h2, by rw [g2, h3], fun _ => by rw [g1]; exact h4⟩
  have w1 : rOK (mW (mP' mo (mP mo + 1))) := hW
  have p1 : (mP mo).toInt + 1 ≤ (mP (mP' mo (mP mo + 1))).toInt := by rw [mP_mP', e1]; omega
  have k1 : rcK mo (mP' mo (mP mo + 1)) := ⟨t1, w1, rfl, p1⟩
  have num : ∀ (r : MoT) (x y z : Int32), rcK mo r → rcK mo (m_X9_number r x y z).2 := by
    intro r x y z ⟨h1, h2, h3, h4⟩
    exact ⟨nb_T h1, nb_W h2, by rw [nb_Z, h3], by have := nb_le (x1 := x) (x2 := y) (x3 := z) h1; omega⟩
  have fin : rcOK mo ((0 : Int32), mP' mo (mP mo + 1 - 1)) := by
    have e : mP mo + 1 - 1 = mP mo := by rw [Int32.add_sub_cancel]
    rw [e]
    exact ⟨hT, hW, rfl, fun h => absurd rfl h⟩
  unfold m_X9_readCommand
  exact rcOK_ite (fun c0 => cut _ _ _ _ (num _ _ _ _ k1)) (fun c0 => rcOK_ite (fun c1 => rcOK_ite (fun c2 => cut _ _ _ _ (num _ _ _ _ k1)) (fun c2 => rcOK_ite (fun c3 => cut _ _ _ _ (num _ _ _ _ (num _ _ _ _ k1))) (fun c3 => cut _ _ _ _ (num _ _ _ _ (num _ _ _ _ (num _ _ _ _ k1)))))) (fun c1 => rcOK_ite (fun c2 => rcOK_ite (fun c3 => cut _ _ _ _ (num _ _ _ _ k1)) (fun c3 => rcOK_ite (fun c4 => cut _ _ _ _ (num _ _ _ _ (num _ _ _ _ k1))) (fun c4 => cut _ _ _ _ (num _ _ _ _ (num _ _ _ _ (num _ _ _ _ k1)))))) (fun c2 => rcOK_ite (fun c3 => cut _ _ _ _ (num _ _ _ _ k1)) (fun c3 => rcOK_ite (fun c4 => rcOK_ite (fun c5 => cut _ _ _ _ (num _ _ _ _ k1)) (fun c5 => rcOK_ite (fun c6 => cut _ _ _ _ (num _ _ _ _ (num _ _ _ _ k1))) (fun c6 => cut _ _ _ _ (num _ _ _ _ (num _ _ _ _ (num _ _ _ _ k1)))))) (fun c4 => rcOK_ite (fun c5 => rcOK_ite (fun c6 => cut _ _ _ _ (num _ _ _ _ k1)) (fun c6 => cut _ _ _ _ (num _ _ _ _ (num _ _ _ _ k1)))) (fun c5 => fin))))))
theorem rt_dec {mo : MoT} {n : Nat} (h : rcOK mo (m_X9_readCommand mo)) (hs : ¬ mZ mo ≤ mP mo) (c : ¬ (m_X9_readCommand mo).1 = 0) (hm : ((mZ mo).toInt - (mP mo).toInt).toNat < n + 1) : ((mZ (m_X9_readCommand mo).2).toInt - (mP (m_X9_readCommand mo).2).toInt).toNat < n := by
  have h1 := h.2.2.2 c
  rw [h.2.2.1]
  rw [i32_le] at hs
  omega
theorem rt_init {z : MoT} {f : Nat → Int32} {a : Int32} (h : iv 0 120 (mZ z)) : ((mZ (mP' (mO' (mW' z f) a) 1)).toInt - (mP (mP' (mO' (mW' z f) a) 1)).toInt).toNat < 1000 := by
  show ((mZ z).toInt - (1 : Int32).toInt).toNat < 1000
  have := h.2
  rw [i32_1]
  omega
theorem rt_tx {z : MoT} {f : Nat → Int32} {a : Int32} (h : iv 0 120 (mZ z)) : txtOK (mP' (mO' (mW' z f) a) 1) := by
  have e : iv 0 120 (1 : Int32) := iv_wide (iv_lit (v := 1) (by decide)) (by decide)
  exact ⟨e, h⟩
theorem rt_ok3 {z : MoT} {f : Nat → Int32} {a b : Int32} (h : rOK f) : rOK (mW (mP' (mO' (mW' z f) a) b)) := h
theorem rokW_pr {a : Int32} {x : MoT} (h : rOK (mW x)) : rOK (mW ((a, x) : Int32 × MoT).2) := h
def m_X9_readText_L39 : Nat → MoT → Int32 × MoT
  | 0, r => (0, r)
  | nF + 1, r => if (mZ r) ≤ (mP r) then ((-1 : Int32), r) else if (m_X9_readCommand r).1 = (0 : Int32) then (mP (m_X9_readCommand r).2, (m_X9_readCommand r).2) else m_X9_readText_L39 nF (m_X9_readCommand r).2
def m_X9_readText (mo : MoT) : Int32 × MoT := if (mZ mo) = (0 : Int32) then ((0 : Int32), mP' (mO' (mW' mo (m_X9_begin (mW mo))) (0 : Int32)) (0 : Int32)) else if ((mT mo) (0 : Int32).toNatClampNeg) = (85 : Int32) then m_X9_readText_L39 1000 (mP' (mO' (mW' mo (m_X9_begin (mW mo))) (0 : Int32)) (1 : Int32)) else ((0 : Int32), mP' (mO' (mW' mo (m_X9_begin (mW mo))) (0 : Int32)) (0 : Int32))
theorem rt_LW (nF : Nat) : ∀ (r : MoT), txtOK r → rOK (mW r) → rOK (mW (m_X9_readText_L39 nF r).2) := by
  induction nF with
  | zero => intro r _ h; exact h
  | succ nF ih =>
    intro r h1 h2
    rw [m_X9_readText_L39]
    exact rokW2_ite (fun _ => rokW_pr h2) (fun c1 => rokW2_ite (fun _ => rokW_pr (rc_ok h1 c1 h2).2.1) (fun _ => ih _ (rc_ok h1 c1 h2).1 (rc_ok h1 c1 h2).2.1))
theorem rt_W {mo : MoT} (hZ : iv 0 120 (mZ mo)) : rOK (mW (m_X9_readText mo).2) := by
  unfold m_X9_readText
  exact rokW2_ite (fun _ => rokW_pr (rt_ok3 (bg_rok _))) (fun _ => rokW2_ite (fun _ => rt_LW _ _ (rt_tx hZ) (rt_ok3 (bg_rok _))) (fun _ => rokW_pr (rt_ok3 (bg_rok _))))
def m_X9_errorPosition (mo : MoT) : Int32 × MoT := ((m_X9_readText (mR' mo (0 : Int32))).1, (m_X9_readText (mR' mo (0 : Int32))).2)
def m_X9_load (mo : MoT) : Int32 × MoT := if (m_X9_readText mo).1 = (-1 : Int32) then (mO (m_X9_readText mo).2, mI' (mA' (mN' (mR' (m_X9_readText mo).2 (0 : Int32)) (m_X9_copyState (mW (m_X9_readText mo).2) (mN (m_X9_readText mo).2) (0 : Int32) (0 : Int32))) (0 : Int32)) (upd (upd (mI (m_X9_readText mo).2) (0 : Int32).toNatClampNeg (0 : Int32)) (1 : Int32).toNatClampNeg (0 : Int32))) else ((0 : Int32), mR' (m_X9_readText mo).2 (1 : Int32))
def m_X9_inDebt_L60 : Nat → MoT → Int32 → Int32 → Int32 × MoT
  | 0, r, _, _ => (0, r)
  | nF + 1, r, se, h => if (5 : Int32) ≤ h then (se, r) else if (0 : Int32) ≤ (((mW r) ((88 : Int32) + h).toNatClampNeg) - (((m_X9_partsOwed (mW r) h (-1 : Int32)) - (m_X9_partsOwed (mW r) (-1 : Int32) h)) * ((mW r) (4 : Int32).toNatClampNeg))) then m_X9_inDebt_L60 nF r (se ||| (0 : Int32)) (h + (1 : Int32)) else m_X9_inDebt_L60 nF r (se ||| ((1 : Int32) <<< (h &&& (31 : Int32)))) (h + (1 : Int32))
def m_X9_inDebt_L20 : Nat → MoT → Int32 → Int32 × MoT
  | 0, r, _ => (0, r)
  | nF + 1, r, u => if ((mW r) (1 : Int32).toNatClampNeg) ≤ u then m_X9_inDebt_L60 100 r (0 : Int32) (0 : Int32) else if (m_X9_isFree (mW r) u) = (0 : Int32) then m_X9_inDebt_L20 nF (mW' r (m_X9_bringOn (mW r) u).2) (u + (1 : Int32)) else m_X9_inDebt_L20 nF r (u + (1 : Int32))
def m_X9_inDebt (mo : MoT) : Int32 × MoT := m_X9_inDebt_L20 100 (mW' (mR' mo (0 : Int32)) (m_X9_copyState (mN mo) (mW mo) (0 : Int32) (0 : Int32))) (0 : Int32)
