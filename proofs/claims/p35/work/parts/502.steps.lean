/-! steps of the class's state beside steps of the row -/
theorem rsV.at {k o p q d k2 o2 p2 q2 d2 : Nat → Int32} {n : Int32} {r r2 : Nat → Int32} (h : rsV k o p q d n r) (X : Nat) (hn : n.toInt ≤ 16) (e1 : r2 1 = r 1)
    (hk : ∀ u : Nat, u ≠ X → k2 u = k u ∧ o2 u = o u ∧ p2 u = p u ∧ q2 u = q u ∧ d2 u = d u)
    (hr : ∀ j : Nat, 8 ≤ j → j < 88 → (j < 8 + 5 * X ∨ 8 + 5 * X + 4 < j) → r2 j = r j)
    (hat : X < n.toNatClampNeg → r2 (8 + 5 * X) = k2 X ∧ r2 (8 + 5 * X + 1) = o2 X ∧ r2 (8 + 5 * X + 2) = p2 X ∧ r2 (8 + 5 * X + 3) = q2 X ∧ (p2 X = o2 X → d2 X = -1) ∧ (¬ p2 X = o2 X → d2 X = r2 (8 + 5 * X + 4))) : rsV k2 o2 p2 q2 d2 n r2 := by
  refine ⟨e1.trans h.1, fun u hu => ?_⟩
  by_cases e : u = X
  · rw [e] at hu ⊢
    exact hat hu
  · obtain ⟨b1, b2, b3, b4, b5⟩ := hk u e
    have hu16 : u < 16 := by rw [tnc_d] at hu; omega
    rw [hr _ (by omega) (by omega) (by omega), hr _ (by omega) (by omega) (by omega), hr _ (by omega) (by omega) (by omega), hr _ (by omega) (by omega) (by omega), hr _ (by omega) (by omega) (by omega), b1, b2, b3, b4, b5]
    exact h.2 u hu
theorem give_eq {r : Nat → Int32} {x v : Int32} (hx : iv 0 15 x) : m_X9_give r x v = upd (upd r (8 + 5 * x.toNatClampNeg + 1) v) (8 + 5 * x.toNatClampNeg + 2) v := by
  unfold m_X9_give
  rw [layk1 hx, layk2 hx]
theorem rsU_give {un : UnT} {r : Nat → Int32} {x v : Int32} (h : rsU un r) (hu : uOK un) (c : ¬ m_X7_has un x = 0) : rsU (m_X7_giveTo un x v) (m_X9_give r x v) := by
  have g := has_in hu c
  rw [give_eq g.1]
  unfold m_X7_giveTo
  rw [if_neg c]
  show rsV (uK un) (upd (uO un) x.toNatClampNeg v) (upd (uP un) x.toNatClampNeg v) (uQ un) (upd (uD un) x.toNatClampNeg (-1)) (uN un) _
  refine rsV.at h x.toNatClampNeg hu.2 ?_ (fun u e => ⟨rfl, pk_un e, pk_un e, rfl, pk_un e⟩) (fun j h1 h2 h3 => ?_) (fun hX => ?_)
  · rw [pk_un (by omega), pk_un (by omega)]
  · rw [pk_un (by omega), pk_un (by omega)]
  · obtain ⟨a1, a2, a3, a4, a5, a6⟩ := h.2 _ hX
    refine ⟨?_, ?_, ?_, ?_, fun _ => pk_us, fun n => absurd ?_ n⟩
    · rw [pk_un (by omega), pk_un (by omega)]; exact a1
    · rw [pk_un (by omega), pk_us, pk_us]
    · rw [pk_us, pk_us]
    · rw [pk_un (by omega), pk_un (by omega)]; exact a4
    · rw [pk_us, pk_us]
theorem rsU_parts {un : UnT} {r : Nat → Int32} {x v : Int32} (h : rsU un r) (hu : uOK un) (hx : iv 0 15 x) : rsU (uQ' un (upd (uQ un) x.toNatClampNeg v)) (m_X9_lay r x 3 v) := by
  rw [layk3 hx]
  show rsV (uK un) (uO un) (uP un) (upd (uQ un) x.toNatClampNeg v) (uD un) (uN un) _
  refine rsV.at h x.toNatClampNeg hu.2 ?_ (fun u e => ⟨rfl, rfl, rfl, pk_un e, rfl⟩) (fun j h1 h2 h3 => ?_) (fun hX => ?_)
  · rw [pk_un (by omega)]
  · rw [pk_un (by omega)]
  · obtain ⟨a1, a2, a3, a4, a5, a6⟩ := h.2 _ hX
    refine ⟨?_, ?_, ?_, ?_, a5, ?_⟩
    · rw [pk_un (by omega)]; exact a1
    · rw [pk_un (by omega)]; exact a2
    · rw [pk_un (by omega)]; exact a3
    · rw [pk_us, pk_us]
    · rw [pk_un (by omega)]; exact a6
theorem rsU_lend {un : UnT} {r : Nat → Int32} {x v d : Int32} (h : rsU un r) (hu : uOK un) (c : ¬ m_X7_has un x = 0) (hv : ¬ uO un x.toNatClampNeg = v) : rsU (uD' (uP' un (upd (uP un) x.toNatClampNeg v)) (upd (uD un) x.toNatClampNeg d)) (m_X9_lay (m_X9_lay r x 2 v) x 4 d) := by
  have g := has_in hu c
  rw [layk2 g.1, layk4 g.1]
  show rsV (uK un) (uO un) (upd (uP un) x.toNatClampNeg v) (uQ un) (upd (uD un) x.toNatClampNeg d) (uN un) _
  refine rsV.at h x.toNatClampNeg hu.2 ?_ (fun u e => ⟨rfl, rfl, pk_un e, rfl, pk_un e⟩) (fun j h1 h2 h3 => ?_) (fun hX => ?_)
  · rw [pk_un (by omega), pk_un (by omega)]
  · rw [pk_un (by omega), pk_un (by omega)]
  · obtain ⟨a1, a2, a3, a4, a5, a6⟩ := h.2 _ hX
    refine ⟨?_, ?_, ?_, ?_, fun n => absurd ?_ hv, fun _ => ?_⟩
    · rw [pk_un (by omega), pk_un (by omega)]; exact a1
    · rw [pk_un (by omega), pk_un (by omega)]; exact a2
    · rw [pk_un (by omega), pk_us, pk_us]
    · rw [pk_un (by omega), pk_un (by omega)]; exact a4
    · rw [pk_us] at n; exact n.symm
    · rw [pk_us, pk_us]
/-- one step of the row that no unit, no core .. sees -/
theorem RS.frU {z z2 : StT} {r r2 : Nat → Int32} (h : RS z r) (hr : rOK r) (hU : rsU (sU z2) r2) (e : ∀ j : Nat, (j = 0 ∨ (2 ≤ j ∧ j < 8) ∨ (88 ≤ j ∧ j < 383)) → r2 j = r j) (ez : z2 = sU' z (sU z2)) : RS z2 r2 := by
  have ok := h.ok hr
  rw [ez]
  refine ⟨hU, ?_, ?_, ?_, ?_, ?_⟩
  · exact rsC.fr h.2.1 (fun j hj => e j (by omega)) ok.2
  · exact rsD.fr h.2.2.1 (fun j hj => e j (by omega))
  · exact rsA.fr h.2.2.2.1 (fun j hj => e j (by omega))
  · exact rsS.fr h.2.2.2.2.1 (fun j hj => e j (by omega))
  · exact rsN.fr (z := z) h.2.2.2.2.2 (fun j hj => e j (by omega))
theorem give_far {r : Nat → Int32} {x v : Int32} (hx : iv 0 15 x) {j : Nat} (hj : j < 8 ∨ (88 ≤ j ∧ j < 383)) : m_X9_give r x v j = r j := by
  have hx2 := iv_tnc (n := 16) hx (by decide)
  rw [give_eq hx, pk_un (by omega), pk_un (by omega)]
theorem RS_give {z : StT} {r : Nat → Int32} {x v : Int32} (h : RS z r) (hr : rOK r) (c : ¬ m_X7_has (sU z) x = 0) : RS (sU' z (m_X7_giveTo (sU z) x v)) (m_X9_give r x v) :=
  RS.frU h hr (rsU_give h.1 (h.ok hr).1 c) (fun _ hj => give_far (has_in (h.ok hr).1 c).1 (by omega)) rfl
theorem pays_eq {r : Nat → Int32} {a b v : Int32} (ha : iv 0 4 a) (hb : iv 0 4 b) : m_X9_pays r a b v = upd (upd r (88 + a.toNatClampNeg) (r (88 + a.toNatClampNeg) - v)) (88 + b.toNatClampNeg) (upd r (88 + a.toNatClampNeg) (r (88 + a.toNatClampNeg) - v) (88 + b.toNatClampNeg) + v) := by
  have f : ∀ {x : Int32}, iv 0 4 x → (88 + x).toNatClampNeg = 88 + x.toNatClampNeg := fun {x} hx => by
    have h1 := hx.1
    have h2 := hx.2
    have e : (88 : Int32).toInt = 88 := by decide
    rw [tnc_d, tnc_d, i32_add (by omega) (by omega), e]
    omega
  unfold m_X9_pays
  rw [f ha, f hb]
theorem pays_far {r : Nat → Int32} {a b v : Int32} (ha : iv 0 4 a) (hb : iv 0 4 b) {j : Nat} (hj : j < 88 ∨ 93 ≤ j) : m_X9_pays r a b v j = r j := by
  have h1 := iv_tnc (n := 5) ha (by decide)
  have h2 := iv_tnc (n := 5) hb (by decide)
  rw [pays_eq ha hb, pk_un (by omega), pk_un (by omega)]
theorem rsA_pays {A r : Nat → Int32} {a b v : Int32} (h : rsA A r) (ha : iv 0 4 a) (hb : iv 0 4 b) : rsA (upd (upd A a.toNatClampNeg (A a.toNatClampNeg - v)) b.toNatClampNeg (upd A a.toNatClampNeg (A a.toNatClampNeg - v) b.toNatClampNeg + v)) (m_X9_pays r a b v) := by
  have h1 := iv_tnc (n := 5) ha (by decide)
  have h2 := iv_tnc (n := 5) hb (by decide)
  rw [pays_eq ha hb]
  have k : ∀ i : Nat, i < 5 → upd r (88 + a.toNatClampNeg) (r (88 + a.toNatClampNeg) - v) (88 + i) = upd A a.toNatClampNeg (A a.toNatClampNeg - v) i := fun i hi => by
    by_cases e : i = a.toNatClampNeg
    · rw [e, pk_us, pk_us, h _ h1]
    · rw [pk_un (by omega), pk_un e, h _ hi]
  intro i hi
  by_cases e : i = b.toNatClampNeg
  · rw [e, pk_us, pk_us, k _ h2]
  · rw [pk_un (by omega), pk_un e, k _ hi]
theorem hold_nz {x : Int32} (h : iv 0 4 x) : ¬ m_X8_isHolder x = 0 := by
  unfold m_X8_isHolder
  have h1 := h.1
  have h2 := h.2
  rw [if_neg (by rw [i32_lt, i32_0]; omega), if_neg (by rw [i32_le, ii5]; omega)]
  decide
theorem hold_iv {x : Int32} (c : ¬ m_X8_isHolder x = 0) : iv 0 4 x := by
  have h := hs_isHolder c
  exact ⟨h.1, by omega⟩
theorem kind_iv {x : Int32} (c : ¬ m_X8_isKind x = 0) : iv 0 2 x := by
  have h := hs_isKind c
  exact ⟨h.1, by omega⟩
theorem part_iv {x : Int32} (c : ¬ m_X8_isPart x = 0) : iv 0 2 x := by
  have h := hs_isPart c
  exact ⟨h.1, by omega⟩
theorem RS_pays {z : StT} {r : Nat → Int32} {a b v : Int32} (h : RS z r) (hr : rOK r) (ha : iv 0 4 a) (hb : iv 0 4 b) : RS (m_X5_pay z a b v) (m_X9_pays r a b v) := by
  have ok := h.ok hr
  have h1 := iv_tnc (n := 5) ha (by decide)
  have h2 := iv_tnc (n := 5) hb (by decide)
  unfold m_X5_pay
  rw [if_neg (hold_nz ha), if_neg (hold_nz hb)]
  refine ⟨?_, ?_, ?_, ?_, ?_, ?_⟩
  · exact rsU.fr (z := sU z) h.1 (fun j hj => pays_far ha hb (by omega)) ok.1
  · exact rsC.fr (z := sC z) h.2.1 (fun j hj => pays_far ha hb (by omega)) ok.2
  · exact rsD.fr (z := sD z) h.2.2.1 (fun j hj => pays_far ha hb (by omega))
  · exact rsA_pays h.2.2.2.1 ha hb
  · exact rsS.fr (z := sS z) h.2.2.2.2.1 (fun j hj => pays_far ha hb (by omega))
  · exact rsN.fr (z := z) h.2.2.2.2.2 (fun j hj => pays_far ha hb (by omega))
/-- bounds: a step that keeps what they speak of -/
theorem BD.fr {T : Int} {r r2 : Nat → Int32} (h : BD T r) (e : ∀ j : Nat, (j = 0 ∨ (2 ≤ j ∧ j < 5) ∨ (93 ≤ j ∧ j < 383)) → r2 j = r j) (d : ∀ u : Nat, u < 16 → 0 ≤ (r2 (8 + 5 * u + 4)).toInt) : BD T r2 := by
  obtain ⟨h1, h2, h3, h4, h5, h6⟩ := h
  refine ⟨?_, fun i hi => ?_, fun x hx q hq => ?_, ?_, d, fun x hx k hk => ?_⟩
  · rw [e 0 (by omega)]; exact h1
  · rw [e _ (by omega)]; exact h2 i hi
  · rw [e _ (by omega)]; exact h3 x hx q hq
  · rw [e 2 (by omega), e 3 (by omega), e 4 (by omega)]; exact h4
  · rw [e _ (by omega)]; exact h6 x hx k hk
theorem BD_up {T T2 : Int} {r : Nat → Int32} (h : BD T r) (e : T ≤ T2) : BD T2 r :=
  ⟨⟨h.1.1, Int.le_trans h.1.2 e⟩, fun i hi => ⟨(h.2.1 i hi).1, Int.le_trans (h.2.1 i hi).2 e⟩, h.2.2⟩
theorem BD_give {T : Int} {r : Nat → Int32} {x v : Int32} (h : BD T r) (hx : iv 0 15 x) : BD T (m_X9_give r x v) := by
  have hx2 := iv_tnc (n := 16) hx (by decide)
  refine BD.fr h (fun j hj => give_far hx (by omega)) (fun u hu => ?_)
  rw [give_eq hx, pk_un (by omega), pk_un (by omega)]
  exact h.2.2.2.2.1 u hu
theorem BD_pays {T : Int} {r : Nat → Int32} {a b v : Int32} (h : BD T r) (ha : iv 0 4 a) (hb : iv 0 4 b) : BD T (m_X9_pays r a b v) :=
  BD.fr h (fun j hj => pays_far ha hb (by omega)) (fun u hu => by rw [pays_far ha hb (by omega)]; exact h.2.2.2.2.1 u hu)
theorem BD_lay3 {T : Int} {r : Nat → Int32} {x v : Int32} (h : BD T r) (hx : iv 0 15 x) : BD T (m_X9_lay r x 3 v) := by
  have hx2 := iv_tnc (n := 16) hx (by decide)
  rw [layk3 hx]
  exact BD.fr h (fun j hj => pk_un (by omega)) (fun u hu => by rw [pk_un (by omega)]; exact h.2.2.2.2.1 u hu)
/-- counters: parts taken, exchanges -/
theorem RS_taken {z : StT} {r : Nat → Int32} {v : Int32} (h : RS z r) (hr : rOK r) : RS (sK' z v) (upd r 6 v) := by
  have ok := h.ok hr
  refine ⟨rsU.fr (z := sU z) h.1 (fun j hj => pk_un (by omega)) ok.1, rsC.fr (z := sC z) h.2.1 (fun j hj => pk_un (by omega)) ok.2, rsD.fr (z := sD z) h.2.2.1 (fun j hj => pk_un (by omega)), rsA.fr (z := sA z) h.2.2.2.1 (fun j hj => pk_un (by omega)), rsS.fr (z := sS z) h.2.2.2.2.1 (fun j hj => pk_un (by omega)), ?_⟩
  obtain ⟨a1, a2, a3, a4⟩ := h.2.2.2.2.2
  exact ⟨(pk_un (by omega)).trans a1, pk_us, (pk_un (by omega)).trans a3, (pk_un (by omega)).trans a4⟩
theorem RS_exch {z : StT} {r : Nat → Int32} {v : Int32} (h : RS z r) (hr : rOK r) : RS (sX' z v) (upd r 7 v) := by
  have ok := h.ok hr
  refine ⟨rsU.fr (z := sU z) h.1 (fun j hj => pk_un (by omega)) ok.1, rsC.fr (z := sC z) h.2.1 (fun j hj => pk_un (by omega)) ok.2, rsD.fr (z := sD z) h.2.2.1 (fun j hj => pk_un (by omega)), rsA.fr (z := sA z) h.2.2.2.1 (fun j hj => pk_un (by omega)), rsS.fr (z := sS z) h.2.2.2.2.1 (fun j hj => pk_un (by omega)), ?_⟩
  obtain ⟨a1, a2, a3, a4⟩ := h.2.2.2.2.2
  exact ⟨(pk_un (by omega)).trans a1, (pk_un (by omega)).trans a2, pk_us, (pk_un (by omega)).trans a4⟩
theorem BD_c {T : Int} {r : Nat → Int32} {k : Nat} {v : Int32} (h : BD T r) (hk : k = 1 ∨ (5 ≤ k ∧ k < 8)) : BD T (upd r k v) :=
  BD.fr h (fun j hj => pk_un (by omega)) (fun u hu => by rw [pk_un (by omega)]; exact h.2.2.2.2.1 u hu)
theorem rok_c {r : Nat → Int32} {k : Nat} {v : Int32} (h : rOK r) (hk : 5 ≤ k ∧ k < 8) : rOK (upd r k v) := rok_free h (by omega)
/-- the answer of an action, class beside reference: done alike, or refused alike -/
def Act (T : Int) (z : StT) (w : Int32) (t : Int32 × StT) (o : Int32 × (Nat → Int32)) (es : List (Int32 × Int32)) : Prop := (w = 0 ∧ t.1 = o.1 ∧ 0 ≤ o.1.toInt ∧ RS t.2 o.2 ∧ BD (T + 99) o.2) ∨ ∃ e ∈ es, w = e.1 ∧ t = (e.2, z)
def es3 : List (Int32 × Int32) := [(1, -1), (2, -2), (3, -3)]
def es2 : List (Int32 × Int32) := [(1, -1), (2, -3)]
theorem e31 : ((1, -1) : Int32 × Int32) ∈ es3 := List.mem_of_getElem? (i := 0) rfl
theorem e32 : ((2, -2) : Int32 × Int32) ∈ es3 := List.mem_of_getElem? (i := 1) rfl
theorem e33 : ((3, -3) : Int32 × Int32) ∈ es3 := List.mem_of_getElem? (i := 2) rfl
theorem e21 : ((1, -1) : Int32 × Int32) ∈ es2 := List.mem_of_getElem? (i := 0) rfl
theorem e22 : ((2, -3) : Int32 × Int32) ∈ es2 := List.mem_of_getElem? (i := 1) rfl
theorem term_eq (x : Int32) : m_X9_in x.toInt64 1 30 = m_X8_isTerm x := by
  unfold m_X8_isTerm
  have g0 : (1 : Int64).toInt = 1 := by decide
  have g4 : (30 : Int64).toInt = 30 := by decide
  by_cases c1 : x < 1
  · rw [if_pos c1]
    rw [i32_lt, i32_1] at c1
    exact min_0 (by rw [i64_i]; omega)
  · rw [if_neg c1]
    rw [i32_lt, i32_1] at c1
    by_cases c2 : (30 : Int32) < x
    · rw [if_pos c2]
      rw [i32_lt, ii30] at c2
      exact min_0 (by rw [i64_i]; omega)
    · rw [if_neg c2]
      rw [i32_lt, ii30] at c2
      exact min_of (by rw [i64_i]; omega) (by rw [i64_i]; omega)
theorem term_iv {x : Int32} (c : ¬ m_X8_isTerm x = 0) : iv 1 30 x := by
  rw [← term_eq] at c
  exact iv_min c
theorem a_lend {z : StT} {r : Nat → Int32} {T : Int} {x1 x2 x3 : Int32} (h : RS z r) (hr : rOK r) (hB : BD T r) (hT : T ≤ 10000000) : Act T z (m_X9_whyNotLend r x1 x2 x3) (m_X5_tryLend z x1 x2 x3) (m_X9_lendOn r x1 x2 x3) es3 := by
  have ok := h.ok hr
  unfold m_X9_whyNotLend m_X5_tryLend
  rw [unit_eq h.1.1 ok.1, hold_eq, term_eq]
  by_cases c1 : m_X7_has (sU z) x1 = 0
  · rw [if_pos c1, if_pos c1]; exact Or.inr ⟨_, e31, rfl, rfl⟩
  rw [if_neg c1, if_neg c1]
  by_cases c2 : m_X8_isHolder x2 = 0
  · rw [if_pos c2, if_pos c2]; exact Or.inr ⟨_, e31, rfl, rfl⟩
  rw [if_neg c2, if_neg c2]
  by_cases c3 : m_X8_isTerm x3 = 0
  · rw [if_pos c3, if_pos c3]; exact Or.inr ⟨_, e32, rfl, rfl⟩
  rw [if_neg c3, if_neg c3, free_eq h.1 ok.1 c1, ru_o h.1 ok.1 c1]
  by_cases c4 : m_X7_isFree (sU z) x1 = 0
  · rw [if_pos c4, if_pos c4]; exact Or.inr ⟨_, e33, rfl, rfl⟩
  rw [if_neg c4, if_neg c4]
  by_cases c5 : uO (sU z) x1.toNatClampNeg = x2
  · rw [if_pos c5, if_pos c5]; exact Or.inr ⟨_, e33, rfl, rfl⟩
  rw [if_neg c5, if_neg c5]
  have g := has_in ok.1 c1
  have g2 := iv_tnc (n := 16) g.1 (by decide)
  have t3 := term_iv c3
  have hb0 := hB.1
  have e0 := h.2.2.2.2.2.1
  have s1 : (sT z + x3).toInt = (sT z).toInt + x3.toInt := by
    rw [e0] at hb0
    have := t3.1
    have := t3.2
    exact i32_add (by omega) (by omega)
  have q0 : ∀ v : Int32, m_X9_lay r x1 2 v (0 : Int32).toNatClampNeg = sT z := fun v => by
    rw [kn0, layk2 g.1, pk_un (by omega), e0]
  have q1 : ∀ v d : Int32, m_X9_lay (m_X9_lay r x1 2 v) x1 4 d (0 : Int32).toNatClampNeg = sT z := fun v d => by
    rw [kn0, layk2 g.1, layk4 g.1, pk_un (by omega), pk_un (by omega), e0]
  unfold m_X9_lendOn
  rw [q1, q0]
  refine Or.inl ⟨rfl, pk_us, ?_, ?_, ?_⟩
  · show 0 ≤ (sT z + x3).toInt
    rw [s1]
    rw [e0] at hb0
    have := t3.1
    omega
  · exact RS.frU h hr (rsU_lend h.1 ok.1 c1 c5) (fun j hj => by show m_X9_lay (m_X9_lay r x1 2 x2) x1 4 (sT z + x3) j = r j; rw [layk2 g.1, layk4 g.1, pk_un (by omega), pk_un (by omega)]) rfl
  · refine BD_up (T := T) (BD.fr hB (fun j hj => ?_) (fun u hu => ?_)) (by omega)
    · show m_X9_lay (m_X9_lay r x1 2 x2) x1 4 (sT z + x3) j = r j
      rw [layk2 g.1, layk4 g.1, pk_un (by omega), pk_un (by omega)]
    · show 0 ≤ (m_X9_lay (m_X9_lay r x1 2 x2) x1 4 (sT z + x3) (8 + 5 * u + 4)).toInt
      rw [layk2 g.1, layk4 g.1]
      by_cases e : u = x1.toNatClampNeg
      · rw [e, pk_us, s1]
        rw [e0] at hb0
        have := t3.1
        omega
      · rw [pk_un (by omega), pk_un (by omega)]
        exact hB.2.2.2.2.1 u hu
theorem u_iv {z : StT} {r : Nat → Int32} {x : Int32} (h : RS z r) (hr : rOK r) (c : ¬ m_X7_has (sU z) x = 0) : iv 0 2 (uK (sU z) x.toNatClampNeg) ∧ iv 0 4 (uO (sU z) x.toNatClampNeg) ∧ iv 0 4 (uP (sU z) x.toNatClampNeg) ∧ iv 0 7 (uQ (sU z) x.toNatClampNeg) := by
  have ok := h.ok hr
  have g := has_in ok.1 c
  obtain ⟨a1, a2, a3, a4, -, -⟩ := h.1.2 _ g.2
  have b := hr.2.1 x.toNatClampNeg (iv_tnc g.1 (by decide))
  rw [a1, a2, a3, a4] at b
  exact b
theorem upd_id {r : Nat → Int32} {k : Nat} {v : Int32} (e : r k = v) : upd r k v = r := by
  funext j
  by_cases c : j = k
  · rw [c, pk_us, e]
  · rw [pk_un c]
theorem a_bring {z : StT} {r : Nat → Int32} {T : Int} {x1 : Int32} (h : RS z r) (hr : rOK r) (hB : BD T r) (hT : T ≤ 10000000) : Act T z (m_X9_whyNotBring r x1) (m_X5_tryBring z x1) (m_X9_bringOn r x1) es2 := by
  have ok := h.ok hr
  unfold m_X9_whyNotBring m_X5_tryBring
  rw [unit_eq h.1.1 ok.1]
  by_cases c1 : m_X7_has (sU z) x1 = 0
  · rw [if_pos c1, if_pos c1]; exact Or.inr ⟨_, e21, rfl, rfl⟩
  rw [if_neg c1, if_neg c1, free_eq h.1 ok.1 c1]
  by_cases c2 : m_X7_isFree (sU z) x1 = 0
  · rw [if_pos c2, if_pos c2]
    have g := has_in ok.1 c1
    have iu := u_iv h hr c1
    have hf := lateOf_eq h hr c1 0
    have n : ¬ uP (sU z) x1.toNatClampNeg = uO (sU z) x1.toNatClampNeg := fun e => by
      unfold m_X7_isFree at c2
      rw [if_neg c1, if_pos e] at c2
      exact absurd c2 (by decide)
    have fee : iv 0 1000000000 (m_X5_feesFor z x1 0) := by
      unfold m_X5_feesFor
      rw [if_neg c1, if_pos c2]
      refine late_nn h hB hT ?_ (iv_wide iv_0 (by decide))
      rw [← ru_d h.1 ok.1 c1 n, ofk4 g.1]
      exact hB.2.2.2.2.1 _ (iv_tnc g.1 (by decide))
    unfold m_X9_bringOn
    rw [hf, ru_o h.1 ok.1 c1, ru_p h.1 ok.1 c1]
    have R1 := RS_pays (v := m_X5_feesFor z x1 0) h hr iu.2.2.1 iu.2.1
    have B1 := BD_pays (v := m_X5_feesFor z x1 0) hB iu.2.2.1 iu.2.1
    have k1 := rok_pays (c := m_X5_feesFor z x1 0) hr iu.2.2.1 iu.2.1
    have eU : ∀ a b v, sU (m_X5_pay z a b v) = sU z := fun a b v => by
      unfold m_X5_pay
      by_cases d1 : m_X8_isHolder a = 0
      · rw [if_pos d1]
        by_cases d2 : m_X8_isHolder b = 0
        · rw [if_pos d2]; rfl
        · rw [if_neg d2]; rfl
      · rw [if_neg d1]
        by_cases d2 : m_X8_isHolder b = 0
        · rw [if_pos d2]; rfl
        · rw [if_neg d2]; rfl
    have c1' : ¬ m_X7_has (sU (m_X5_pay z (uP (sU z) x1.toNatClampNeg) (uO (sU z) x1.toNatClampNeg) (m_X5_feesFor z x1 0))) x1 = 0 := by rw [eU]; exact c1
    have eo := ru_o R1.1 (R1.ok k1).1 c1'
    rw [eo]
    have el : m_X9_lay (m_X9_pays r (uP (sU z) x1.toNatClampNeg) (uO (sU z) x1.toNatClampNeg) (m_X5_feesFor z x1 0)) x1 2 (uO (sU (m_X5_pay z (uP (sU z) x1.toNatClampNeg) (uO (sU z) x1.toNatClampNeg) (m_X5_feesFor z x1 0))) x1.toNatClampNeg) = m_X9_give (m_X9_pays r (uP (sU z) x1.toNatClampNeg) (uO (sU z) x1.toNatClampNeg) (m_X5_feesFor z x1 0)) x1 (uO (sU (m_X5_pay z (uP (sU z) x1.toNatClampNeg) (uO (sU z) x1.toNatClampNeg) (m_X5_feesFor z x1 0))) x1.toNatClampNeg) := by
      unfold m_X9_give
      have : m_X9_lay (m_X9_pays r (uP (sU z) x1.toNatClampNeg) (uO (sU z) x1.toNatClampNeg) (m_X5_feesFor z x1 0)) x1 1 (uO (sU (m_X5_pay z (uP (sU z) x1.toNatClampNeg) (uO (sU z) x1.toNatClampNeg) (m_X5_feesFor z x1 0))) x1.toNatClampNeg) = m_X9_pays r (uP (sU z) x1.toNatClampNeg) (uO (sU z) x1.toNatClampNeg) (m_X5_feesFor z x1 0) := by
        rw [layk1 g.1]
        refine upd_id ?_
        rw [← ofk1 (r := m_X9_pays _ _ _ _) g.1, eo]
      rw [this]
    rw [el]
    exact Or.inl ⟨rfl, rfl, fee.1, RS_give R1 k1 c1', BD_up (BD_give B1 g.1) (by omega)⟩
  · rw [if_neg c2, if_neg c2]; exact Or.inr ⟨_, e22, rfl, rfl⟩
