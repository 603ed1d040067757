/-! p35: holds as a function -/
def tkZ (h k : Int32) (z : SpT) : SpT := if gFr (sU (pN z)) h k = -1 then z else (callP z 13 (gFr (sU (pN z)) h k) (gTo (sU (pN z)) h k) (gPt (sU (pN z)) h k)).2.2
def tkM (h k : Int32) (z : SpT) : Nat := if gFr (sU (pN z)) h k = -1 then 0 else 1
def tkL (h k tk : Int32) : Nat → SpT → Nat → SpT × Nat
  | 0, z, md => (z, md)
  | j + 1, z, md => if nI md < tk then tkL h k tk j (tkZ h k z) (md + tkM h k z) else (z, md)
def tkA (h k tk : Int32) (z : SpT) : SpT × Nat := if 0 < tk ∧ tk ≤ 12 then tkL h k tk 12 z 0 else (z, 0)
def unZ : Nat → SpT → SpT
  | 0, z => z
  | m + 1, z => unZ m (callP z 17 0 0 0).2.2
def duZ (z : SpT) : SpT := if m_X7_dueFirst (sU (pN z)) = -1 then z else (callP (callP z 9 (m_X7_dueFirst (sU (pN z))) 0 0).2.2 17 0 0 0).2.2
def hoK (z : SpT) (x : Int32) : SpT × Nat := tkA (rmJ x 5) (rmJ (x / 8) 3) (m_X7_fewestTakings (sU (pN z)) (rmJ x 5) (rmJ (x / 8) 3)) z
def holdP (z : SpT) (x : Int32) : SpT := duZ (unZ (hoK z x).2 (hoK z x).1)
section SIMH
variable {T : Int} {z1 z2 : SpT} {h k tk x : Int32}
theorem sim_tkZ (s : SIM T z1 z2) (h0 : 100000 ≤ T) (h1 : T ≤ 1000000) : tkM h k z1 = tkM h k z2 ∧ SIM (T + 99) (tkZ h k z1) (tkZ h k z2) := by
  have e := s.uq
  have o := s.l h0 h1
  have et := e.to (h := h) (k := k)
  have ep := e.pt (h := h) (k := k) o.st.1 (okz_7 o)
  have ef := e.fr (h := h) (k := k) o.st.1 (okz_7 o)
  unfold tkM tkZ
  rw [← et, ← ep, ← ef]
  by_cases c : gFr (sU (pN z1)) h k = -1
  · rw [if_pos c, if_pos c, if_pos c]
    exact ⟨rfl, s.up (by omega)⟩
  · rw [if_neg c, if_neg c, if_neg c]
    exact ⟨rfl, (sim_call s h0 h1 13 (by decide)).2⟩
theorem sim_tkL : ∀ (j : Nat) (T : Int) (z1 z2 : SpT) (md : Nat), SIM T z1 z2 → 100000 ≤ T → T + 99 * j ≤ 1000000 → (tkL h k tk j z1 md).2 = (tkL h k tk j z2 md).2 ∧ SIM (T + 99 * j) (tkL h k tk j z1 md).1 (tkL h k tk j z2 md).1 := by
  intro j
  induction j with
  | zero => intro T z1 z2 md s h0 h1; exact ⟨rfl, s.up (by omega)⟩
  | succ j ih =>
    intro T z1 z2 md s h0 h1
    rw [tkL, tkL]
    by_cases c : nI md < tk
    · rw [if_pos c, if_pos c]
      obtain ⟨e1, e2⟩ := sim_tkZ (h := h) (k := k) s h0 (by omega)
      rw [← e1]
      obtain ⟨f1, f2⟩ := ih (T + 99) _ _ (md + tkM h k z1) e2 (by omega) (by omega)
      exact ⟨f1, f2.up (by omega)⟩
    · rw [if_neg c, if_neg c]
      exact ⟨rfl, s.up (by omega)⟩
theorem sim_unZ : ∀ (j : Nat) (T : Int) (z1 z2 : SpT), SIM T z1 z2 → 100000 ≤ T → T + 99 * j ≤ 1000000 → SIM (T + 99 * j) (unZ j z1) (unZ j z2) := by
  intro j
  induction j with
  | zero => intro T z1 z2 s h0 h1; exact s.up (by omega)
  | succ j ih =>
    intro T z1 z2 s h0 h1
    rw [unZ, unZ]
    exact (ih (T + 99) _ _ (sim_call s h0 (by omega) 17 (by decide)).2 (by omega) (by omega)).up (by omega)
theorem sim_duZ (s : SIM T z1 z2) (h0 : 100000 ≤ T) (h1 : T ≤ 900000) : SIM (T + 198) (duZ z1) (duZ z2) := by
  have e : m_X7_dueFirst (sU (pN z1)) = m_X7_dueFirst (sU (pN z2)) := (s.e (by omega)).2.1
  unfold duZ
  rw [← e]
  by_cases c : m_X7_dueFirst (sU (pN z1)) = -1
  · rw [if_pos c, if_pos c]; exact s.up (by omega)
  · rw [if_neg c, if_neg c]
    exact (sim_call (sim_call s h0 (by omega) 9 (by decide)).2 (by omega) (by omega) 17 (by decide)).2.up (by omega)
theorem tkL_le : ∀ (j : Nat) (z : SpT) (md : Nat), (tkL h k tk j z md).2 ≤ md + j := by
  intro j
  induction j with
  | zero => intro z md; exact Nat.le_refl _
  | succ j ih =>
    intro z md
    rw [tkL]
    split
    · have := ih (tkZ h k z) (md + tkM h k z)
      have : tkM h k z ≤ 1 := by unfold tkM; split <;> omega
      omega
    · show md ≤ _
      omega
theorem hoK_le (z : SpT) (x : Int32) : (hoK z x).2 ≤ 12 := by
  unfold hoK tkA
  split
  · have := tkL_le (h := rmJ x 5) (k := rmJ (x / 8) 3) (tk := m_X7_fewestTakings (sU (pN z)) (rmJ x 5) (rmJ (x / 8) 3)) 12 z 0
    omega
  · show (0 : Nat) ≤ 12
    omega
theorem sim_holdP (s : SIM T z1 z2) (h0 : 100000 ≤ T) (h1 : T ≤ 890000) (hx0 : 0 ≤ x.toInt) : SIM (T + 3000) (holdP z1 x) (holdP z2 x) := by
  have hk : iv 0 2 (rmJ (x / 8) 3) := rmJ_3 (by rw [i32_div hx0 (show (8 : Int32).toInt = 8 by decide) (by decide)]; omega)
  have e := (sim_call (a := rmJ x 5) (b := rmJ (x / 8) 3) (c := 0) s h0 (by omega) 19 (by decide)).1
  rw [kv_19 (holdI (rmJ_5 hx0)) (is_kind hk), kv_19 (holdI (rmJ_5 hx0)) (is_kind hk)] at e
  have a : (hoK z1 x).2 = (hoK z2 x).2 ∧ SIM (T + 1188) (hoK z1 x).1 (hoK z2 x).1 := by
    unfold hoK tkA
    rw [← e]
    split
    · obtain ⟨f1, f2⟩ := sim_tkL (h := rmJ x 5) (k := rmJ (x / 8) 3) (tk := m_X7_fewestTakings (sU (pN z1)) (rmJ x 5) (rmJ (x / 8) 3)) 12 T z1 z2 0 s h0 (by omega)
      exact ⟨f1, f2.up (by omega)⟩
    · exact ⟨rfl, s.up (by omega)⟩
  have l := hoK_le z1 x
  unfold holdP
  rw [← a.1]
  exact (sim_duZ (sim_unZ _ _ _ _ a.2 (by omega) (by omega)) (by omega) (by omega)).up (by omega)
end SIMH
/-- what holds while the law takes -/
def TI (T : Int) (z0 : SpT) (h k : Int32) (md : Nat) (z : SpT) : Prop := OK2 (T + 99 * md) z ∧ TQ (pN z0) md z ∧ uN (sU (pN z)) = uN (sU (pN z0)) ∧ ∃ i, i < uM (sU (pN z)) ∧ (uK (sU (pN z)) i = k ∧ uP (sU (pN z)) i = h) ∧ 0 < (mg (uQ (sU (pN z)) i)).toInt
theorem TI.step {T : Int} {z0 z : SpT} {h k : Int32} {md : Nat} (i : TI T z0 h k md z) (m12 : md < 12) (h0 : 100000 ≤ T) (h1 : T ≤ 900000) (nf : ¬ gFr (sU (pN z)) h k = -1) : 0 ≤ (kV (callP z 13 (gFr (sU (pN z)) h k) (gTo (sU (pN z)) h k) (gPt (sU (pN z)) h k))).toInt ∧ TI T z0 h k (md + 1) (callP z 13 (gFr (sU (pN z)) h k) (gTo (sU (pN z)) h k) (gPt (sU (pN z)) h k)).2.2 := by
  obtain ⟨i1, i2, i3, i4⟩ := i
  have o := i1.oz (by omega) (by omega)
  have c := i1.call (by omega) (by omega) 13 (by decide) (gFr (sU (pN z)) h k) (gTo (sU (pN z)) h k) (gPt (sU (pN z)) h k)
  obtain ⟨t1, t2, t3⟩ := take_go o i4 nf
  have q := i2.fin (by omega) o.hi t1
  have f := fin_ok (z := z) t1
  rw [cp_13, fn_take] at c ⊢
  generalize hv9 : m_X5_tryTake (pN z) (gFr (sU (pN z)) h k) (gTo (sU (pN z)) h k) (gPt (sU (pN z)) h k) = t9 at *
  refine ⟨?_, c.up (by omega), q, ?_, ?_⟩
  · rw [f, kV_ok]; exact t1
  · rw [f]
    show uN (sU t9.2) = _
    rw [t2]; exact i3
  · rw [f]
    show ∃ i, i < uM (sU t9.2) ∧ (uK (sU t9.2) i = k ∧ uP (sU t9.2) i = h) ∧ 0 < (mg (uQ (sU t9.2) i)).toInt
    rw [show uM (sU t9.2) = uM (sU (pN z)) by unfold uM; rw [t2]]
    exact t3
section CU
variable {z : SpT} {i : Nat}
theorem un_has (oz : OKz z) (hi : i < uM (sU (pN z))) : ¬ m_X7_has (sU (pN z)) (nI i) = 0 ∧ (nI i).toNatClampNeg = i := by
  obtain ⟨m16, mN9⟩ := um16 oz.st.1
  have e := nI_n (i := i) (by omega)
  exact ⟨is_has (by rw [e.1]; omega), e.2⟩
theorem cu_0 (l : Launch) (hl0 : l.stackTraces = false) (D : va_G) (cy : Nat → ClassId) (t : FxA) (xa sa sb tr na : Nat → Nat) (ka : Nat → Nat → Nat) (oz : OKz z) (hi : i < uM (sU (pN z))) : HW 9 1 6 240 l D cy t yL_call wc_call (wSp cy xa sa sb tr na ka z) (wSp cy xa sa sb tr na ka z) [.ref (xa 0), .int (3 : Int32), .int (nI i), .int (0 : Int32), .int (0 : Int32)] (uK (sU (pN z)) i) := by
  have h := cq_3 l hl0 D cy t xa sa sb tr na ka oz (nI i) 0 0
  obtain ⟨u1, u2⟩ := un_has oz hi
  rw [(kv_unit (v := 0) u1).1, u2] at h
  exact h
theorem cu_1 (l : Launch) (hl0 : l.stackTraces = false) (D : va_G) (cy : Nat → ClassId) (t : FxA) (xa sa sb tr na : Nat → Nat) (ka : Nat → Nat → Nat) (oz : OKz z) (hi : i < uM (sU (pN z))) : HW 9 1 6 240 l D cy t yL_call wc_call (wSp cy xa sa sb tr na ka z) (wSp cy xa sa sb tr na ka z) [.ref (xa 0), .int (3 : Int32), .int (nI i), .int (1 : Int32), .int (0 : Int32)] (uO (sU (pN z)) i) := by
  have h := cq_3 l hl0 D cy t xa sa sb tr na ka oz (nI i) 1 0
  obtain ⟨u1, u2⟩ := un_has oz hi
  rw [(kv_unit (v := 0) u1).2.1, u2] at h
  exact h
theorem cu_2 (l : Launch) (hl0 : l.stackTraces = false) (D : va_G) (cy : Nat → ClassId) (t : FxA) (xa sa sb tr na : Nat → Nat) (ka : Nat → Nat → Nat) (oz : OKz z) (hi : i < uM (sU (pN z))) : HW 9 1 6 240 l D cy t yL_call wc_call (wSp cy xa sa sb tr na ka z) (wSp cy xa sa sb tr na ka z) [.ref (xa 0), .int (3 : Int32), .int (nI i), .int (2 : Int32), .int (0 : Int32)] (uP (sU (pN z)) i) := by
  have h := cq_3 l hl0 D cy t xa sa sb tr na ka oz (nI i) 2 0
  obtain ⟨u1, u2⟩ := un_has oz hi
  rw [(kv_unit (v := 0) u1).2.2.1, u2] at h
  exact h
theorem cu_3 (l : Launch) (hl0 : l.stackTraces = false) (D : va_G) (cy : Nat → ClassId) (t : FxA) (xa sa sb tr na : Nat → Nat) (ka : Nat → Nat → Nat) (oz : OKz z) (hi : i < uM (sU (pN z))) : HW 9 1 6 240 l D cy t yL_call wc_call (wSp cy xa sa sb tr na ka z) (wSp cy xa sa sb tr na ka z) [.ref (xa 0), .int (3 : Int32), .int (nI i), .int (3 : Int32), .int (0 : Int32)] (uQ (sU (pN z)) i) := by
  have h := cq_3 l hl0 D cy t xa sa sb tr na ka oz (nI i) 3 0
  obtain ⟨u1, u2⟩ := un_has oz hi
  rw [(kv_unit (v := 0) u1).2.2.2.1, u2] at h
  exact h
end CU
