/-! p35: the takings that the law makes, and takes back -/
def toL (un : UnT) (h k : Int32) : Nat → Nat → Int32 × Int32 → Int32 × Int32
  | 0, _, a => a
  | f + 1, i, a => toL un h k f (i + 1) (if (uK un i = k ∧ uP un i = h) ∧ 0 < mg (uQ un i) ∧ mg (uQ un i) < a.2 then (nI i, mg (uQ un i)) else a)
def gTo (un : UnT) (h k : Int32) : Int32 := (toL un h k (uM un) 0 (-1, 4)).1
def ptO (q : Int32) : Int32 := if q &&& 1 = 0 then 0 else if q &&& 2 = 0 then 1 else 2
def frL (un : UnT) (h k to pt : Int32) : Nat → Nat → Int32 × Int32 → Int32 × Int32
  | 0, _, a => a
  | f + 1, i, a => frL un h k to pt f (i + 1) (if ¬ nI i = to ∧ (uK un i = k ∧ uP un i = h) ∧ (uQ un i >>> (pt &&& 31)) &&& 1 = 1 ∧ 0 < mg (uQ un i) ∧ (a.1 < 0 ∨ a.2 ≤ mg (uQ un i)) then (nI i, mg (uQ un i)) else a)
def gPt (un : UnT) (h k : Int32) : Int32 := if gTo un h k < 0 then 0 else ptO (uQ un (gTo un h k).toNatClampNeg)
def gFr (un : UnT) (h k : Int32) : Int32 := (frL un h k (gTo un h k) (gPt un h k) (uM un) 0 (-1, 4)).1
theorem nI_n {i : Nat} (h : i < 100000) : (nI i).toInt = i ∧ (nI i).toNatClampNeg = i := by
  have e : (nI i).toInt = i := Int32.toInt_ofNat_of_lt (by omega)
  exact ⟨e, by rw [tnc_d, e]; omega⟩
section GR
variable {un : UnT} {h k : Int32}
theorem toL_f (h7 : ∀ i, i < uM un → iv 0 7 (uQ un i)) : ∀ (f i : Nat) (a : Int32 × Int32), i + f = uM un → ((a = (-1, 4) ∧ ∀ j, j < i → (uK un j = k ∧ uP un j = h) → ¬ 0 < (mg (uQ un j)).toInt) ∨ ∃ j, j < i ∧ a = (nI j, mg (uQ un j)) ∧ (uK un j = k ∧ uP un j = h) ∧ 0 < (mg (uQ un j)).toInt) → ((toL un h k f i a = (-1, 4) ∧ ∀ j, j < uM un → (uK un j = k ∧ uP un j = h) → ¬ 0 < (mg (uQ un j)).toInt) ∨ ∃ j, j < uM un ∧ toL un h k f i a = (nI j, mg (uQ un j)) ∧ (uK un j = k ∧ uP un j = h) ∧ 0 < (mg (uQ un j)).toInt) := by
  intro f
  induction f with
  | zero => intro i a e q; rw [← e]; exact q
  | succ f ih =>
    intro i a e q
    rw [toL]
    refine ih (i + 1) _ (by omega) ?_
    have m3 := (mg_iv (h7 i (by omega))).2
    by_cases c : (uK un i = k ∧ uP un i = h) ∧ 0 < mg (uQ un i) ∧ mg (uQ un i) < a.2
    · rw [if_pos c]
      refine Or.inr ⟨i, by omega, rfl, c.1, ?_⟩
      have := c.2.1
      rw [i32_lt, i32_0] at this
      exact this
    · rw [if_neg c]
      rcases q with ⟨q1, q2⟩ | ⟨j, q1, q2⟩
      · refine Or.inl ⟨q1, fun j hj kk => ?_⟩
        by_cases ji : j = i
        · subst ji
          intro pos
          refine c ⟨kk, by rw [i32_lt, i32_0]; exact pos, ?_⟩
          rw [q1, i32_lt]
          show (mg (uQ un j)).toInt < (4 : Int32).toInt
          rw [show (4 : Int32).toInt = 4 by decide]
          omega
        · exact q2 j (by omega) kk
      · exact Or.inr ⟨j, by omega, q2⟩
theorem to_fact (h7 : ∀ i, i < uM un → iv 0 7 (uQ un i)) (ex : ∃ i, i < uM un ∧ (uK un i = k ∧ uP un i = h) ∧ 0 < (mg (uQ un i)).toInt) : ∃ j, j < uM un ∧ gTo un h k = nI j ∧ (uK un j = k ∧ uP un j = h) ∧ 0 < (mg (uQ un j)).toInt := by
  rcases toL_f (h := h) (k := k) h7 (uM un) 0 (-1, 4) (by omega) (Or.inl ⟨rfl, fun j hj => absurd hj (Nat.not_lt_zero j)⟩) with ⟨-, q2⟩ | ⟨j, q1, q2, q3⟩
  · obtain ⟨i, i1, i2, i3⟩ := ex
    exact absurd i3 (q2 i i1 i2)
  · exact ⟨j, q1, by unfold gTo; rw [q2], q3⟩
theorem frL_f {to pt : Int32} : ∀ (f i : Nat) (a : Int32 × Int32), i + f = uM un → (a.1 = -1 ∨ ∃ j, j < i ∧ a.1 = nI j ∧ ¬ nI j = to ∧ (uK un j = k ∧ uP un j = h) ∧ (uQ un j >>> (pt &&& 31)) &&& 1 = 1 ∧ 0 < (mg (uQ un j)).toInt) → ((frL un h k to pt f i a).1 = -1 ∨ ∃ j, j < uM un ∧ (frL un h k to pt f i a).1 = nI j ∧ ¬ nI j = to ∧ (uK un j = k ∧ uP un j = h) ∧ (uQ un j >>> (pt &&& 31)) &&& 1 = 1 ∧ 0 < (mg (uQ un j)).toInt) := by
  intro f
  induction f with
  | zero => intro i a e q; rw [← e]; exact q
  | succ f ih =>
    intro i a e q
    rw [frL]
    refine ih (i + 1) _ (by omega) ?_
    by_cases c : ¬ nI i = to ∧ (uK un i = k ∧ uP un i = h) ∧ (uQ un i >>> (pt &&& 31)) &&& 1 = 1 ∧ 0 < mg (uQ un i) ∧ (a.1 < 0 ∨ a.2 ≤ mg (uQ un i))
    · rw [if_pos c]
      refine Or.inr ⟨i, by omega, rfl, c.1, c.2.1, c.2.2.1, ?_⟩
      have := c.2.2.2.1
      rw [i32_lt, i32_0] at this
      exact this
    · rw [if_neg c]
      rcases q with q | ⟨j, q1, q2⟩
      · exact Or.inl q
      · exact Or.inr ⟨j, by omega, q2⟩
theorem fr_fact : gFr un h k = -1 ∨ ∃ j, j < uM un ∧ gFr un h k = nI j ∧ ¬ nI j = gTo un h k ∧ (uK un j = k ∧ uP un j = h) ∧ (uQ un j >>> (gPt un h k &&& 31)) &&& 1 = 1 ∧ 0 < (mg (uQ un j)).toInt :=
  frL_f (uM un) 0 (-1, 4) (by omega) (Or.inl rfl)
theorem toL_c {u2 : UnT} : ∀ (f i : Nat) (a : Int32 × Int32), (∀ j, i ≤ j → j < i + f → uK un j = uK u2 j ∧ uP un j = uP u2 j ∧ uQ un j = uQ u2 j) → toL un h k f i a = toL u2 h k f i a := by
  intro f
  induction f with
  | zero => intro i a e; rfl
  | succ f ih =>
    intro i a e
    obtain ⟨e1, e2, e3⟩ := e i (Nat.le_refl _) (by omega)
    rw [toL, toL, e1, e2, e3]
    exact ih (i + 1) _ (fun j h1 h2 => e j (by omega) (by omega))
theorem frL_c {u2 : UnT} {to pt : Int32} : ∀ (f i : Nat) (a : Int32 × Int32), (∀ j, i ≤ j → j < i + f → uK un j = uK u2 j ∧ uP un j = uP u2 j ∧ uQ un j = uQ u2 j) → frL un h k to pt f i a = frL u2 h k to pt f i a := by
  intro f
  induction f with
  | zero => intro i a e; rfl
  | succ f ih =>
    intro i a e
    obtain ⟨e1, e2, e3⟩ := e i (Nat.le_refl _) (by omega)
    rw [frL, frL, e1, e2, e3]
    exact ih (i + 1) _ (fun j h1 h2 => e j (by omega) (by omega))
end GR
/-- two units' rows that look alike -/
def UQ (u1 u2 : UnT) : Prop := uN u1 = uN u2 ∧ ∀ j, j < uM u1 → uK u1 j = uK u2 j ∧ uP u1 j = uP u2 j ∧ uQ u1 j = uQ u2 j
theorem SIM.uq {T : Int} {z1 z2 : SpT} (h : SIM T z1 z2) : UQ (sU (pN z1)) (sU (pN z2)) := by
  obtain ⟨mo, A, B⟩ := h
  have a := A.2.1.1.1
  have b := B.2.1.1.1
  refine ⟨a.1.symm.trans b.1, fun j hj => ?_⟩
  obtain ⟨a1, -, a3, a4, -, -⟩ := a.2 j hj
  obtain ⟨b1, -, b3, b4, -, -⟩ := b.2 j (by
    have e : uN (sU (pN z1)) = uN (sU (pN z2)) := a.1.symm.trans b.1
    show j < (uN (sU (pN z2))).toNatClampNeg
    rw [← e]
    exact hj)
  exact ⟨a1.symm.trans b1, a3.symm.trans b3, a4.symm.trans b4⟩
theorem UQ.to {u1 u2 : UnT} {h k : Int32} (e : UQ u1 u2) : gTo u1 h k = gTo u2 h k := by
  unfold gTo
  rw [show uM u2 = uM u1 by unfold uM; rw [e.1], toL_c (uM u1) 0 (-1, 4) (fun j _ h2 => e.2 j (by omega))]
theorem to_dich {un : UnT} {h k : Int32} (h7 : ∀ i, i < uM un → iv 0 7 (uQ un i)) : gTo un h k = -1 ∨ ∃ j, j < uM un ∧ gTo un h k = nI j := by
  rcases toL_f (h := h) (k := k) h7 (uM un) 0 (-1, 4) (by omega) (Or.inl ⟨rfl, fun j hj => absurd hj (Nat.not_lt_zero j)⟩) with ⟨q1, -⟩ | ⟨j, q1, q2, -⟩
  · exact Or.inl (by unfold gTo; rw [q1])
  · exact Or.inr ⟨j, q1, by unfold gTo; rw [q2]⟩
theorem UQ.pt {u1 u2 : UnT} {h k : Int32} (e : UQ u1 u2) (hu : uOK u1) (h7 : ∀ i, i < uM u1 → iv 0 7 (uQ u1 i)) : gPt u1 h k = gPt u2 h k := by
  unfold gPt
  rw [← e.to]
  rcases to_dich (h := h) (k := k) h7 with q | ⟨j, q1, q2⟩
  · rw [q, if_pos (show (-1 : Int32) < 0 by decide), if_pos (show (-1 : Int32) < 0 by decide)]
  · have m16 := (um16 hu).1
    have ej := nI_n (i := j) (by omega)
    rw [q2, ej.2, (e.2 j q1).2.2]
theorem UQ.fr {u1 u2 : UnT} {h k : Int32} (e : UQ u1 u2) (hu : uOK u1) (h7 : ∀ i, i < uM u1 → iv 0 7 (uQ u1 i)) : gFr u1 h k = gFr u2 h k := by
  unfold gFr
  rw [← e.to, ← e.pt hu h7, show uM u2 = uM u1 by unfold uM; rw [e.1], frL_c (uM u1) 0 (-1, 4) (fun j _ h2 => e.2 j (by omega))]
theorem okz_7 {z : SpT} (o : OKz z) : ∀ i, i < uM (sU (pN z)) → iv 0 7 (uQ (sU (pN z)) i) := fun i hi => by
  obtain ⟨m16, mN9⟩ := um16 o.st.1
  have e := nI_n (i := i) (by omega)
  have := ok_q7 o (nI i) (is_has (by rw [e.1]; omega))
  rw [e.2] at this
  exact this
/-- how the takings are carried through -/
def TQ (st0 : StT) (m : Nat) (z : SpT) : Prop := m ≤ hcN (pH z) ∧ (m = 0 → pN z = st0) ∧ (0 < m → hv (pH z) (hcN (pH z) - m) = st0)
theorem TQ.fin {st0 : StT} {m : Nat} {z : SpT} {t : Int32 × StT} (q : TQ st0 m z) (m13 : m < 14) (ok : hiOK (pH z)) (h : 0 ≤ t.1.toInt) : TQ st0 (m + 1) (fnA z t).2.2 := by
  rw [fin_ok h]
  show m + 1 ≤ hcN (hiKeep (hiPrep (pH z) (pN z))) ∧ (m + 1 = 0 → t.2 = st0) ∧ (0 < m + 1 → hv (hiKeep (hiPrep (pH z) (pN z))) (hcN (hiKeep (hiPrep (pH z) (pN z))) - (m + 1)) = st0)
  obtain ⟨q1, q2, q3⟩ := q
  refine ⟨?_, fun e => absurd e (by omega), fun _ => ?_⟩
  · rcases hv_keep (st := pN z) ok with ⟨k1, k2, -, -⟩ | ⟨k1, k2, -, -⟩
    · omega
    · omega
  · rcases hv_keep (st := pN z) ok with ⟨k1, k2, k3, k4⟩ | ⟨k1, k2, k3, k4⟩
    · rw [k2]
      by_cases c : m = 0
      · subst c
        rw [show hcN (pH z) + 1 - (0 + 1) = hcN (pH z) by omega, k4]
        exact q2 rfl
      · rw [show hcN (pH z) + 1 - (m + 1) = hcN (pH z) - m by omega, k3 _ (by omega)]
        exact q3 (by omega)
    · rw [k2]
      by_cases c : m = 0
      · subst c
        rw [show 14 - (0 + 1) = 13 by omega, k4]
        exact q2 rfl
      · rw [k3 _ (by omega), show 14 - (m + 1) + 1 = hcN (pH z) - m by omega]
        exact q3 (by omega)
theorem TQ.undo {st0 : StT} {m : Nat} {z : SpT} (q : TQ st0 (m + 1) z) (ok : hiOK (pH z)) : 0 ≤ (kV (callP z 17 0 0 0)).toInt ∧ TQ st0 m (callP z 17 0 0 0).2.2 := by
  obtain ⟨q1, q2, q3⟩ := q
  obtain ⟨k1, k2, k3⟩ := hv_back (st := pN z) ok (by omega)
  have c : ¬ hC (pH z) = 0 := fun e => by
    have : hcN (pH z) = 0 := by unfold hcN; rw [e]; rfl
    omega
  have dn : hiOK (hiBack (pH z) (pN z)).2 := by
    have b1 := ok.2.1
    have c1 : hcN (pH z) = (hC (pH z)).toInt.toNat := rfl
    have c9 : ¬ hC (pH z) ≤ 0 := by rw [i32_le, i32_0]; omega
    unfold hiBack
    rw [if_neg c9]
    exact ok_down ok c9
  rw [cp_17]
  unfold m_X8_undo
  rw [if_neg c, kV_ok]
  refine ⟨dn.2.1, ?_⟩
  show m ≤ hcN (hiBack (pH z) (pN z)).2 ∧ (m = 0 → (hiBack (pH z) (pN z)).1 = st0) ∧ (0 < m → hv (hiBack (pH z) (pN z)).2 (hcN (hiBack (pH z) (pN z)).2 - m) = st0)
  rw [k2, k3]
  refine ⟨by omega, fun e => ?_, fun e => ?_⟩
  · rw [k1, ← q3 (by omega), e]
  · rw [show hcN (pH z) - 1 - m = hcN (pH z) - (m + 1) by omega]
    exact q3 (by omega)
/-- a pool as it is between calls -/
def OK2 (T : Int) (z : SpT) : Prop := (∃ mo, PR T z mo) ∧ GS T z
theorem OK2.oz {T : Int} {z : SpT} (h : OK2 T z) (h0 : 100000 ≤ T) (h1 : T ≤ 1000000) : OKz z := by
  obtain ⟨⟨mo, H⟩, -⟩ := h
  exact ⟨T, mo, h0, h1, H⟩
theorem OK2.call {T : Int} {z : SpT} (h : OK2 T z) (h0 : 100000 ≤ T) (h1 : T ≤ 1000000) (k : Nat) (hk : k < 24) (a b c : Int32) : OK2 (T + 99) (callP z k a b c).2.2 := by
  obtain ⟨mo, H⟩ := h.1
  obtain ⟨-, m2, A, -⟩ := sim_call (a := a) (b := b) (c := c) ⟨mo, H, H⟩ h0 h1 k hk
  exact ⟨⟨m2, A⟩, gs_call (h.oz h0 h1) h.2 h0 h1 k hk⟩
theorem OK2.up {T T2 : Int} {z : SpT} (h : OK2 T z) (e : T ≤ T2) : OK2 T2 z := by
  obtain ⟨⟨mo, H⟩, g⟩ := h
  exact ⟨⟨mo, H.up e⟩, g.up e⟩
/-- a taking that the law chooses is done -/
theorem bt_1 : ∀ q : Nat, q < 8 → ∀ p : Nat, p < 3 → ((Int32.ofNat q >>> (Int32.ofNat p &&& 31)) &&& 1 = 1 → (¬ (Int32.ofNat q &&& ((1 : Int32) <<< (Int32.ofNat p &&& 31))) = 0) ∧ 0 < (mg (Int32.ofNat q &&& (((1 : Int32) <<< (Int32.ofNat p &&& 31)) ^^^ (-1)))).toInt) := by decide +kernel
theorem bt_2 : ∀ q : Nat, q < 8 → 0 < (mg (Int32.ofNat q)).toInt → (Int32.ofNat q &&& ((1 : Int32) <<< (ptO (Int32.ofNat q) &&& 31))) = 0 := by decide +kernel
theorem ptO_p (q : Int32) : ∃ p : Nat, p < 3 ∧ ptO q = Int32.ofNat p := by
  unfold ptO
  split
  · exact ⟨0, by decide, rfl⟩
  split
  · exact ⟨1, by decide, rfl⟩
  · exact ⟨2, by decide, rfl⟩
theorem hasP {un : UnT} {u p : Int32} (hh : ¬ m_X7_has un u = 0) : m_X7_hasPart un u p = if uQ un u.toNatClampNeg &&& ((1 : Int32) <<< (p &&& 31)) = 0 then 0 else 1 := by
  unfold m_X7_hasPart
  rw [if_neg hh]
theorem take_val {st : StT} {x1 x2 x3 : Int32} (c1 : ¬ m_X7_has (sU st) x1 = 0) (c2 : ¬ m_X7_has (sU st) x2 = 0) (c3 : ¬ m_X8_isPart x3 = 0) (c4 : ¬ m_X7_isOfKindAt (sU st) x1 (uK (sU st) x2.toNatClampNeg) (uP (sU st) x2.toNatClampNeg) = 0) (c5 : ¬ m_X7_hasPart (sU st) x1 x3 = 0) (c6 : m_X7_hasPart (sU st) x2 x3 = 0) : ¬ (m_X5_tryTake st x1 x2 x3).2 = st ∧ uN (sU (m_X5_tryTake st x1 x2 x3).2) = uN (sU st) ∧ uK (sU (m_X5_tryTake st x1 x2 x3).2) = uK (sU st) ∧ uP (sU (m_X5_tryTake st x1 x2 x3).2) = uP (sU st) ∧ (¬ x1.toNatClampNeg = x2.toNatClampNeg → uQ (sU (m_X5_tryTake st x1 x2 x3).2) x1.toNatClampNeg = uQ (sU st) x1.toNatClampNeg &&& (((1 : Int32) <<< (x3 &&& (31 : Int32))) ^^^ (-1 : Int32))) := by
  unfold m_X5_tryTake
  rw [if_neg c1, if_neg c2, if_neg c3, if_neg c4, if_neg c5, if_pos c6]
  refine ⟨fun e => ?_, rfl, rfl, rfl, fun n => ?_⟩
  · have k := congrArg sK e
    have k2 : sK st + 1 = sK st := k
    have : (1 : Int32) = 0 := by grind
    exact absurd this (by decide)
  · show upd (upd (uQ (sU st)) x1.toNatClampNeg _) x2.toNatClampNeg _ x1.toNatClampNeg = _
    unfold upd
    rw [if_neg n, if_pos rfl]
/-- the state that the law's taking leaves -/
theorem take_go {z : SpT} {h k : Int32} (o : OKz z) (ex : ∃ i, i < uM (sU (pN z)) ∧ (uK (sU (pN z)) i = k ∧ uP (sU (pN z)) i = h) ∧ 0 < (mg (uQ (sU (pN z)) i)).toInt) (nf : ¬ gFr (sU (pN z)) h k = -1) :
    0 ≤ (m_X5_tryTake (pN z) (gFr (sU (pN z)) h k) (gTo (sU (pN z)) h k) (gPt (sU (pN z)) h k)).1.toInt ∧ uN (sU (m_X5_tryTake (pN z) (gFr (sU (pN z)) h k) (gTo (sU (pN z)) h k) (gPt (sU (pN z)) h k)).2) = uN (sU (pN z)) ∧ ∃ i, i < uM (sU (pN z)) ∧ (uK (sU (m_X5_tryTake (pN z) (gFr (sU (pN z)) h k) (gTo (sU (pN z)) h k) (gPt (sU (pN z)) h k)).2) i = k ∧ uP (sU (m_X5_tryTake (pN z) (gFr (sU (pN z)) h k) (gTo (sU (pN z)) h k) (gPt (sU (pN z)) h k)).2) i = h) ∧ 0 < (mg (uQ (sU (m_X5_tryTake (pN z) (gFr (sU (pN z)) h k) (gTo (sU (pN z)) h k) (gPt (sU (pN z)) h k)).2) i)).toInt := by
  have hu := o.st.1
  obtain ⟨m16, mN9⟩ := um16 hu
  have h7 : ∀ i, i < uM (sU (pN z)) → iv 0 7 (uQ (sU (pN z)) i) := fun i hi => by
    have e := nI_n (i := i) (by omega)
    have := ok_q7 o (nI i) (is_has (by rw [e.1]; omega))
    rw [e.2] at this
    exact this
  obtain ⟨j, j1, j2, j3, j4⟩ := to_fact (h := h) (k := k) h7 ex
  rcases fr_fact (un := sU (pN z)) (h := h) (k := k) with q | ⟨i, i1, i2, i3, i4, i5, i6⟩
  · exact absurd q nf
  have ej := nI_n (i := j) (by omega)
  have ei := nI_n (i := i) (by omega)
  have op : gPt (sU (pN z)) h k = ptO (uQ (sU (pN z)) j) := by unfold gPt; rw [j2, if_neg (by rw [i32_lt, i32_0, ej.1]; omega), ej.2]
  rw [op] at i5 ⊢
  rw [j2] at i3 ⊢
  rw [i2]
  obtain ⟨p, p1, p2⟩ := ptO_p (uQ (sU (pN z)) j)
  obtain ⟨a, a1, a2⟩ := q7 (h7 i i1)
  obtain ⟨b, b1, b2⟩ := q7 (h7 j j1)
  have k1 := bt_1 a a1 p p1
  have k2 := bt_2 b b1
  rw [← a2, ← p2] at k1
  rw [← b2] at k2
  have k1 := k1 i5
  have k2 := k2 j4
  have hi : ¬ m_X7_has (sU (pN z)) (nI i) = 0 := is_has (by rw [ei.1]; omega)
  have hj : ¬ m_X7_has (sU (pN z)) (nI j) = 0 := is_has (by rw [ej.1]; omega)
  have hp : iv 0 2 (ptO (uQ (sU (pN z)) j)) := by
    rw [p2]
    have e := nI_n (i := p) (by omega)
    have e1 : (Int32.ofNat p).toInt = p := e.1
    exact ⟨by omega, by omega⟩
  have tv := take_val (st := pN z) (x1 := nI i) (x2 := nI j) (x3 := ptO (uQ (sU (pN z)) j)) hi hj (is_part hp) (by rw [kat hi, ei.2, ej.2, if_pos ⟨i4.1.trans j3.1.symm, i4.2.trans j3.2.symm⟩]; decide) (by rw [hasP hi, ei.2, if_neg k1.1]; decide) (by rw [hasP hj, ej.2, if_pos k2])
  have ou := ou_take (x1 := nI i) (x2 := nI j) (x3 := ptO (uQ (sU (pN z)) j)) o
  obtain ⟨t1, t2, t3, t4, t5⟩ := tv
  refine ⟨ou.elim id (fun q => absurd q.1 t1), t2, i, i1, ?_, ?_⟩
  · rw [t3, t4]; exact i4
  · rw [ei.2, ej.2] at t5
    rw [t5 (fun e => i3 (by rw [e]))]
    exact k1.2
