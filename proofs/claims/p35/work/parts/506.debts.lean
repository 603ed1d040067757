/-! debts of parts -/
def dIx (a b c d : Int32) : Nat := 45 * a.toNatClampNeg + 9 * b.toNatClampNeg + 3 * c.toNatClampNeg + d.toNatClampNeg
theorem dIx_lt {a b c d : Int32} (ha : iv 0 4 a) (hb : iv 0 4 b) (hc : iv 0 2 c) (hd : iv 0 2 d) : dIx a b c d < 225 := by
  have h1 := iv_tnc (n := 5) ha (by decide)
  have h2 := iv_tnc (n := 5) hb (by decide)
  have h3 := iv_tnc (n := 3) hc (by decide)
  have h4 := iv_tnc (n := 3) hd (by decide)
  unfold dIx
  omega
theorem dIx_c {a b c d : Int32} (ha : iv 0 4 a) (hb : iv 0 4 b) (hc : iv 0 2 c) (hd : iv 0 2 d) : ¬ m_X1_indexOf a b c d = -1 ∧ (m_X1_indexOf a b c d).toNatClampNeg = dIx a b c d ∧ (m_X1_indexOf a b c d).toInt = dIx a b c d := by
  have e : m_X1_indexOf a b c d = (((a * 5 + b) * 9) + c * 3) + d := by
    unfold m_X1_indexOf
    have nk : ∀ {x : Int32}, iv 0 2 x → ¬ m_X8_isKind x = 0 := fun {x} hx => by
      unfold m_X8_isKind
      have h1 := hx.1
      have h2 := hx.2
      rw [if_neg (by rw [i32_lt, i32_0]; omega), if_neg (by rw [i32_le, ii3]; omega)]
      decide
    have np : ∀ {x : Int32}, iv 0 2 x → ¬ m_X8_isPart x = 0 := fun {x} hx => nk hx
    rw [if_neg (hold_nz ha), if_neg (hold_nz hb), if_neg (nk hc), if_neg (np hd)]
  have t := ix_toInt (h := a) (o := b) (k := c) (p := d) ⟨ha.1, by have := ha.2; omega⟩ ⟨hb.1, by have := hb.2; omega⟩ ⟨hc.1, by have := hc.2; omega⟩ ⟨hd.1, by have := hd.2; omega⟩
  have g1 := iv_int ha
  have g2 := iv_int hb
  have g3 := iv_int hc
  have g4 := iv_int hd
  have ti : (m_X1_indexOf a b c d).toInt = dIx a b c d := by
    rw [e, t, g1, g2, g3, g4]
    unfold dIx
    omega
  refine ⟨fun q => ?_, ?_, ti⟩
  · rw [q, im1] at ti
    omega
  · rw [tnc_d, ti]
    omega
theorem dIx_m {a b c d : Int32} (ha : iv 0 4 a) (hb : iv 0 4 b) (hc : iv 0 2 c) (hd : iv 0 2 d) : (m_X9_owedAt a b c d).toNatClampNeg = 93 + dIx a b c d := by
  have g1 := iv_int ha
  have g2 := iv_int hb
  have g3 := iv_int hc
  have g4 := iv_int hd
  have a1 := ha.2
  have a2 := hb.2
  have a3 := hc.2
  have a4 := hd.2
  have b1 := ha.1
  have b2 := hb.1
  have b3 := hc.1
  have b4 := hd.1
  have e93 : (93 : Int32).toInt = 93 := by decide
  have e45 : (45 : Int32).toInt = 45 := by decide
  have e9 : (9 : Int32).toInt = 9 := by decide
  have m1 : ((45 : Int32) * a).toInt = 45 * a.toInt := by rw [i32_mul (by rw [e45]; omega) (by rw [e45]; omega), e45]
  have m2 : ((9 : Int32) * b).toInt = 9 * b.toInt := by rw [i32_mul (by rw [e9]; omega) (by rw [e9]; omega), e9]
  have m3 : ((3 : Int32) * c).toInt = 3 * c.toInt := by rw [i32_mul (by rw [ii3]; omega) (by rw [ii3]; omega), ii3]
  have s1 : ((93 : Int32) + 45 * a).toInt = 93 + 45 * a.toInt := by rw [i32_add (by rw [e93, m1]; omega) (by rw [e93, m1]; omega), e93, m1]
  have s2 : ((93 : Int32) + 45 * a + 9 * b).toInt = 93 + 45 * a.toInt + 9 * b.toInt := by rw [i32_add (by rw [s1, m2]; omega) (by rw [s1, m2]; omega), s1, m2]
  have s3 : ((93 : Int32) + 45 * a + 9 * b + 3 * c).toInt = 93 + 45 * a.toInt + 9 * b.toInt + 3 * c.toInt := by rw [i32_add (by rw [s2, m3]; omega) (by rw [s2, m3]; omega), s2, m3]
  have s4 : ((93 : Int32) + 45 * a + 9 * b + 3 * c + d).toInt = 93 + 45 * a.toInt + 9 * b.toInt + 3 * c.toInt + d.toInt := by rw [i32_add (by rw [s3]; omega) (by rw [s3]; omega), s3]
  unfold m_X9_owedAt dIx
  rw [tnc_d, s4, g1, g2, g3, g4]
  omega
theorem rsD_upd {de r : Nat → Int32} {i : Nat} {v : Int32} (h : rsD de r) : rsD (upd de i v) (upd r (93 + i) v) := fun j hj => by
  by_cases e : j = i
  · rw [e, pk_us, pk_us]
  · rw [pk_un (by omega), pk_un e]; exact h j hj
theorem RS_debt {z : StT} {r : Nat → Int32} {i : Nat} {v : Int32} (h : RS z r) (hr : rOK r) (hi : i < 225) : RS (sD' z (upd (sD z) i v)) (upd r (93 + i) v) := by
  have ok := h.ok hr
  exact ⟨rsU.fr (z := sU z) h.1 (fun j hj => pk_un (by omega)) ok.1, rsC.fr (z := sC z) h.2.1 (fun j hj => pk_un (by omega)) ok.2, rsD_upd h.2.2.1, rsA.fr (z := sA z) h.2.2.2.1 (fun j hj => pk_un (by omega)), rsS.fr (z := sS z) h.2.2.2.2.1 (fun j hj => pk_un (by omega)), rsN.fr (z := z) h.2.2.2.2.2 (fun j hj => pk_un (by omega))⟩
theorem BD_debt {T : Int} {r : Nat → Int32} {a b c d v : Int32} (hB : BD T r) (ha : iv 0 4 a) (hb : iv 0 4 b) (hc : iv 0 2 c) (hd : iv 0 2 d) (n : ¬ a = b) (hv : 0 ≤ v.toInt ∧ v.toInt ≤ T + 1) : BD (T + 1) (upd r (93 + dIx a b c d) v) := by
  have h1 := iv_tnc (n := 5) ha (by decide)
  have h2 := iv_tnc (n := 5) hb (by decide)
  have h3 := iv_tnc (n := 3) hc (by decide)
  have h4 := iv_tnc (n := 3) hd (by decide)
  have hl := dIx_lt ha hb hc hd
  have ne : ¬ a.toNatClampNeg = b.toNatClampNeg := fun e => n (i32_eq (by rw [iv_int ha, iv_int hb, e]))
  obtain ⟨b1, b2, b3, b4, b5, b6⟩ := hB
  refine ⟨?_, fun i hi => ?_, fun x hx q hq => ?_, ?_, fun u hu => ?_, fun x hx k hk => ?_⟩
  · rw [pk_un (by omega)]; omega
  · by_cases e : i = dIx a b c d
    · rw [e, pk_us]; exact hv
    · rw [pk_un (by omega)]
      have := b2 i hi
      omega
  · rw [pk_un (by unfold dIx; omega)]; exact b3 x hx q hq
  · rw [pk_un (by omega), pk_un (by omega), pk_un (by omega)]; exact b4
  · rw [pk_un (by omega)]; exact b5 u hu
  · rw [pk_un (by omega)]; exact b6 x hx k hk
theorem betw_eq {de : Nat → Int32} {a b c d : Int32} (ha : iv 0 4 a) (hb : iv 0 4 b) (hc : iv 0 2 c) (hd : iv 0 2 d) : m_X1_between de a b c d = de (dIx a b c d) := by
  obtain ⟨h1, h2, -⟩ := dIx_c ha hb hc hd
  unfold m_X1_between
  rw [if_neg h1, h2]
theorem rok_debt {r : Nat → Int32} {i : Nat} {v : Int32} (h : rOK r) (hi : i < 225) : rOK (upd r (93 + i) v) := rok_free h (by omega)
theorem a_settle {z : StT} {r : Nat → Int32} {T : Int} {x1 x2 x3 x4 : Int32} (h : RS z r) (hr : rOK r) (hB : BD T r) (hT : T ≤ 10000000) : Act T z (m_X9_whyNotSettle r x1 x2 x3 x4) (m_X5_trySettle z x1 x2 x3 x4) (m_X9_settleOn r x1 x2 x3 x4) es2 := by
  have ok := h.ok hr
  unfold m_X9_whyNotSettle m_X5_trySettle
  rw [hold_eq, hold_eq, kind_eq, part_eq]
  by_cases c1 : m_X8_isHolder x1 = 0
  · rw [if_pos c1, if_pos c1]; exact Or.inr ⟨_, e21, rfl, rfl⟩
  rw [if_neg c1, if_neg c1]
  by_cases c2 : m_X8_isHolder x2 = 0
  · rw [if_pos c2, if_pos c2]; exact Or.inr ⟨_, e21, rfl, rfl⟩
  rw [if_neg c2, if_neg c2]
  by_cases c3 : m_X8_isKind x3 = 0
  · rw [if_pos c3, if_pos c3]; exact Or.inr ⟨_, e21, rfl, rfl⟩
  rw [if_neg c3, if_neg c3]
  by_cases c4 : m_X8_isPart x4 = 0
  · rw [if_pos c4, if_pos c4]; exact Or.inr ⟨_, e21, rfl, rfl⟩
  have i1 := hold_iv c1
  have i2 := hold_iv c2
  have i3 := kind_iv c3
  have i4 := part_iv c4
  have hl := dIx_lt i1 i2 i3 i4
  have ed := h.2.2.1 _ hl
  rw [if_neg c4, if_neg c4, dIx_m i1 i2 i3 i4, betw_eq i1 i2 i3 i4, ed]
  by_cases c5 : sD z (dIx x1 x2 x3 x4) = 0
  · rw [if_pos c5, if_pos c5]; exact Or.inr ⟨_, e22, rfl, rfl⟩
  rw [if_neg c5, if_neg c5]
  have hb := hB.2.1 _ hl
  rw [ed] at hb
  have npos : 0 < (sD z (dIx x1 x2 x3 x4)).toInt := by
    by_cases q : 0 < (sD z (dIx x1 x2 x3 x4)).toInt
    · exact q
    · exact absurd (i32_eq (by rw [i32_0]; omega)) c5
  have n12 : ¬ x1 = x2 := fun e => by
    subst e
    have h1 := iv_tnc (n := 5) i1 (by decide)
    have h3 := iv_tnc (n := 3) i3 (by decide)
    have h4 := iv_tnc (n := 3) i4 (by decide)
    have dg := hB.2.2.1 x1.toNatClampNeg h1 (3 * x3.toNatClampNeg + x4.toNatClampNeg) (by omega)
    have e2 : 93 + 54 * x1.toNatClampNeg + (3 * x3.toNatClampNeg + x4.toNatClampNeg) = 93 + dIx x1 x1 x3 x4 := by unfold dIx; omega
    rw [e2, ed] at dg
    exact c5 dg
  have s1 : (sD z (dIx x1 x2 x3 x4) - 1).toInt = (sD z (dIx x1 x2 x3 x4)).toInt - 1 := by
    rw [i32_sub (by rw [i32_1]; omega) (by rw [i32_1]; omega), i32_1]
  have er : m_X1_removeOne (sD z) x1 x2 x3 x4 = upd (sD z) (dIx x1 x2 x3 x4) (sD z (dIx x1 x2 x3 x4) - 1) := by
    obtain ⟨h1, h2, -⟩ := dIx_c i1 i2 i3 i4
    unfold m_X1_removeOne
    rw [if_neg h1, h2, if_neg (by rw [i32_le, i32_0]; omega)]
  rw [er, (pay_sU _ _ _ _).2.2.1]
  unfold m_X9_settleOn
  have R1 := RS_debt (v := sD z (dIx x1 x2 x3 x4) - 1) h hr hl
  have k1 := rok_debt (v := sD z (dIx x1 x2 x3 x4) - 1) hr hl
  have B1 := BD_debt (v := sD z (dIx x1 x2 x3 x4) - 1) hB i1 i2 i3 i4 n12 ⟨by omega, by omega⟩
  have e4 := h.2.2.2.2.1 2 (by omega)
  rw [dIx_m i1 i2 i3 i4, ed, kn4, pk_un (f := r) (j := 4) (by omega), show r 4 = _ from e4, kn2]
  have R2 := RS_pays (v := sS z 2) R1 k1 i1 i2
  have B2 := BD_pays (v := sS z 2) B1 i1 i2
  refine Or.inl ⟨rfl, ?_, ?_, R2, BD_up B2 (by omega)⟩
  · show m_X1_between (upd (sD z) _ _) x1 x2 x3 x4 = m_X9_pays _ x1 x2 _ (93 + dIx x1 x2 x3 x4)
    rw [betw_eq i1 i2 i3 i4, pk_us, pays_far i1 i2 (by omega), pk_us]
  · show 0 ≤ (m_X9_pays _ x1 x2 _ (93 + dIx x1 x2 x3 x4)).toInt
    rw [pays_far i1 i2 (by omega), pk_us]
    omega
/-- one more part owed, or one less the other way round -/
theorem a_debt {z : StT} {r : Nat → Int32} {T : Int} {a b c d : Int32} (h : RS z r) (hr : rOK r) (hB : BD T r) (hT : T ≤ 10000000) (ha : iv 0 4 a) (hb : iv 0 4 b) (hc : iv 0 2 c) (hd : iv 0 2 d) (n : ¬ a = b) :
    let row := if r (93 + dIx b a c d) ≤ 0 then upd r (93 + dIx a b c d) (r (93 + dIx a b c d) + 1) else upd r (93 + dIx b a c d) (r (93 + dIx b a c d) - 1)
    RS (sD' z (m_X1_addOne (sD z) a b c d)) row ∧ BD (T + 1) row ∧ m_X1_between (m_X1_addOne (sD z) a b c d) a b c d = row (93 + dIx a b c d) ∧ 0 ≤ (row (93 + dIx a b c d)).toInt := by
  have l1 := dIx_lt ha hb hc hd
  have l2 := dIx_lt hb ha hc hd
  obtain ⟨p1, p2, p3⟩ := dIx_c ha hb hc hd
  obtain ⟨q1, q2, q3⟩ := dIx_c hb ha hc hd
  have h1 := iv_tnc (n := 5) ha (by decide)
  have h2 := iv_tnc (n := 5) hb (by decide)
  have ne : ¬ a.toNatClampNeg = b.toNatClampNeg := fun e => n (i32_eq (by rw [iv_int ha, iv_int hb, e]))
  have nd : ¬ dIx a b c d = dIx b a c d := by unfold dIx; omega
  have e1 := h.2.2.1 _ l1
  have e2 := h.2.2.1 _ l2
  have b1 := hB.2.1 _ l1
  have b2 := hB.2.1 _ l2
  intro row
  have eadd : m_X1_addOne (sD z) a b c d = if sD z (dIx b a c d) ≤ 0 then upd (sD z) (dIx a b c d) (sD z (dIx a b c d) + 1) else upd (sD z) (dIx b a c d) (sD z (dIx b a c d) - 1) := by
    unfold m_X1_addOne
    rw [if_neg p1, if_neg q1, if_neg (fun e => nd (by have := congrArg Int32.toInt e; rw [p3, q3] at this; omega)), p2, q2]
  rw [eadd, betw_eq ha hb hc hd]
  show RS _ (if _ then _ else _) ∧ BD _ (if _ then _ else _) ∧ _ = (if _ then _ else _ : Nat → Int32) _ ∧ 0 ≤ ((if _ then _ else _ : Nat → Int32) _).toInt
  rw [e1, e2]
  rw [e1] at b1
  rw [e2] at b2
  by_cases cc : sD z (dIx b a c d) ≤ 0
  · rw [if_pos cc, if_pos cc]
    have s1 : (sD z (dIx a b c d) + 1).toInt = (sD z (dIx a b c d)).toInt + 1 := by
      rw [i32_add (by rw [i32_1]; omega) (by rw [i32_1]; omega), i32_1]
    refine ⟨RS_debt h hr l1, BD_debt hB ha hb hc hd n ⟨by omega, by omega⟩, ?_, ?_⟩
    · rw [pk_us, pk_us]
    · rw [pk_us]; omega
  · rw [if_neg cc, if_neg cc]
    rw [i32_le, i32_0] at cc
    have s1 : (sD z (dIx b a c d) - 1).toInt = (sD z (dIx b a c d)).toInt - 1 := by
      rw [i32_sub (by rw [i32_1]; omega) (by rw [i32_1]; omega), i32_1]
    refine ⟨RS_debt h hr l2, BD_debt hB hb ha hc hd (fun e => n e.symm) ⟨by omega, by omega⟩, ?_, ?_⟩
    · rw [pk_un nd, pk_un (by omega), e1]
    · rw [pk_un (by omega), e1]; omega
theorem bit_off {q p : Int32} (hq : iv 0 7 q) (hp : iv 0 2 p) (c : ¬ q &&& ((1 : Int32) <<< (p &&& (31 : Int32))) = 0) : q &&& (((1 : Int32) <<< (p &&& (31 : Int32))) ^^^ (-1 : Int32)) = q ^^^ ((1 : Int32) <<< (p &&& (31 : Int32))) := by
  have e : p = 0 ∨ p = 1 ∨ p = 2 := by
    have h1 := hp.1
    have h2 := hp.2
    have g : p.toInt = 0 ∨ p.toInt = 1 ∨ p.toInt = 2 := by omega
    rcases g with g | g | g
    · exact Or.inl (i32_eq (by rw [g]; decide))
    · exact Or.inr (Or.inl (i32_eq (by rw [g]; decide)))
    · exact Or.inr (Or.inr (i32_eq (by rw [g]; decide)))
  revert c
  rcases e with e | e | e <;> subst e <;> (rcases iv7_or hq with e | e | e | e | e | e | e | e) <;> subst e <;> decide +kernel
theorem take_why {z : StT} {r : Nat → Int32} {x1 x2 x3 : Int32} (h : RS z r) (hr : rOK r) (c1 : ¬ m_X7_has (sU z) x1 = 0) (c2 : ¬ m_X7_has (sU z) x2 = 0) (i3 : iv 0 2 x3) :
    (uK (sU z) x1.toNatClampNeg = uK (sU z) x2.toNatClampNeg ∧ uP (sU z) x1.toNatClampNeg = uP (sU z) x2.toNatClampNeg ∧ ¬ uQ (sU z) x1.toNatClampNeg &&& ((1 : Int32) <<< (x3 &&& (31 : Int32))) = 0 ∧ uQ (sU z) x2.toNatClampNeg &&& ((1 : Int32) <<< (x3 &&& (31 : Int32))) = 0 ∧ ¬ m_X7_isOfKindAt (sU z) x1 (uK (sU z) x2.toNatClampNeg) (uP (sU z) x2.toNatClampNeg) = 0 ∧ ¬ m_X7_hasPart (sU z) x1 x3 = 0 ∧ m_X7_hasPart (sU z) x2 x3 = 0) ∨
    ((m_X7_isOfKindAt (sU z) x1 (uK (sU z) x2.toNatClampNeg) (uP (sU z) x2.toNatClampNeg) = 0 ∨ m_X7_hasPart (sU z) x1 x3 = 0 ∨ ¬ m_X7_hasPart (sU z) x2 x3 = 0) ∧ (¬ uK (sU z) x1.toNatClampNeg = uK (sU z) x2.toNatClampNeg ∨ ¬ uP (sU z) x1.toNatClampNeg = uP (sU z) x2.toNatClampNeg ∨ uQ (sU z) x1.toNatClampNeg &&& ((1 : Int32) <<< (x3 &&& (31 : Int32))) = 0 ∨ ¬ uQ (sU z) x2.toNatClampNeg &&& ((1 : Int32) <<< (x3 &&& (31 : Int32))) = 0)) := by
  unfold m_X7_isOfKindAt m_X7_hasPart
  by_cases a1 : uK (sU z) x1.toNatClampNeg = uK (sU z) x2.toNatClampNeg <;> by_cases a2 : uP (sU z) x1.toNatClampNeg = uP (sU z) x2.toNatClampNeg <;> by_cases a3 : uQ (sU z) x1.toNatClampNeg &&& ((1 : Int32) <<< (x3 &&& (31 : Int32))) = 0 <;> by_cases a4 : uQ (sU z) x2.toNatClampNeg &&& ((1 : Int32) <<< (x3 &&& (31 : Int32))) = 0 <;> simp [c1, c2, a1, a2, a3, a4]
theorem take_end {z : StT} {r row : Nat → Int32} {T : Int} {x1 x2 x3 : Int32} (h : RS z row) (hr : rOK row) (hB : BD T row) (hT : T ≤ 10000000) (c1 : ¬ m_X7_has (sU z) x1 = 0) (c2 : ¬ m_X7_has (sU z) x2 = 0) (i3 : iv 0 2 x3) (wk : uK (sU z) x1.toNatClampNeg = uK (sU z) x2.toNatClampNeg) :
    m_X1_between (m_X1_addOne (sD z) (uO (sU z) x2.toNatClampNeg) (uO (sU z) x1.toNatClampNeg) (uK (sU z) x2.toNatClampNeg) x3) (uO (sU z) x2.toNatClampNeg) (uO (sU z) x1.toNatClampNeg) (uK (sU z) x2.toNatClampNeg) x3 = (m_X9_takeOn_L40 r x1 x2 x3 row).1 ∧ 0 ≤ (m_X9_takeOn_L40 r x1 x2 x3 row).1.toInt ∧ RS (sD' z (m_X1_addOne (sD z) (uO (sU z) x2.toNatClampNeg) (uO (sU z) x1.toNatClampNeg) (uK (sU z) x2.toNatClampNeg) x3)) (m_X9_takeOn_L40 r x1 x2 x3 row).2 ∧ BD (T + 99) (m_X9_takeOn_L40 r x1 x2 x3 row).2 := by
  have ok := h.ok hr
  have iu := u_iv h hr c1
  have iw := u_iv h hr c2
  unfold m_X9_takeOn_L40
  rw [ru_o h.1 ok.1 c1, ru_o h.1 ok.1 c2, ru_k h.1 ok.1 c1, wk]
  by_cases e : uO (sU z) x1.toNatClampNeg = uO (sU z) x2.toNatClampNeg
  · rw [if_pos e, e]
    obtain ⟨p1, p2, p3⟩ := dIx_c iw.2.1 iw.2.1 iw.1 i3
    have ea : m_X1_addOne (sD z) (uO (sU z) x2.toNatClampNeg) (uO (sU z) x2.toNatClampNeg) (uK (sU z) x2.toNatClampNeg) x3 = sD z := by
      unfold m_X1_addOne
      rw [if_neg p1, if_neg p1, if_pos rfl]
    rw [ea, betw_eq iw.2.1 iw.2.1 iw.1 i3]
    have h1 := iv_tnc (n := 5) iw.2.1 (by decide)
    have h3 := iv_tnc (n := 3) iw.1 (by decide)
    have h4 := iv_tnc (n := 3) i3 (by decide)
    have dg := hB.2.2.1 (uO (sU z) x2.toNatClampNeg).toNatClampNeg h1 (3 * (uK (sU z) x2.toNatClampNeg).toNatClampNeg + x3.toNatClampNeg) (by omega)
    have e2 : 93 + 54 * (uO (sU z) x2.toNatClampNeg).toNatClampNeg + (3 * (uK (sU z) x2.toNatClampNeg).toNatClampNeg + x3.toNatClampNeg) = 93 + dIx (uO (sU z) x2.toNatClampNeg) (uO (sU z) x2.toNatClampNeg) (uK (sU z) x2.toNatClampNeg) x3 := by unfold dIx; omega
    rw [e2, h.2.2.1 _ (dIx_lt iw.2.1 iw.2.1 iw.1 i3)] at dg
    exact ⟨dg, (by show 0 ≤ (0 : Int32).toInt; decide), h, BD_up hB (by omega)⟩
  · rw [if_neg e]
    have n : ¬ uO (sU z) x2.toNatClampNeg = uO (sU z) x1.toNatClampNeg := fun q => e q.symm
    obtain ⟨r1, r2, r3, r4⟩ := a_debt h hr hB hT iw.2.1 iu.2.1 iw.1 i3 n
    rw [dIx_m iu.2.1 iw.2.1 iw.1 i3, dIx_m iw.2.1 iu.2.1 iw.1 i3]
    by_cases cc : row (93 + dIx (uO (sU z) x1.toNatClampNeg) (uO (sU z) x2.toNatClampNeg) (uK (sU z) x2.toNatClampNeg) x3) ≤ 0
    · rw [if_pos cc] at r1 r2 r3 r4 ⊢
      exact ⟨r3, r4, r1, BD_up r2 (by omega)⟩
    · rw [if_neg cc] at r1 r2 r3 r4 ⊢
      exact ⟨r3, r4, r1, BD_up r2 (by omega)⟩
theorem a_take {z : StT} {r : Nat → Int32} {T : Int} {x1 x2 x3 : Int32} (h : RS z r) (hr : rOK r) (hB : BD T r) (hT : T ≤ 10000000) : Act T z (m_X9_whyNotTake r x1 x2 x3) (m_X5_tryTake z x1 x2 x3) (m_X9_takeOn r x1 x2 x3) es2 := by
  have ok := h.ok hr
  unfold m_X9_whyNotTake m_X5_tryTake
  rw [unit_eq h.1.1 ok.1, unit_eq h.1.1 ok.1, part_eq]
  by_cases c1 : m_X7_has (sU z) x1 = 0
  · rw [if_pos c1, if_pos c1]; exact Or.inr ⟨_, e21, rfl, rfl⟩
  rw [if_neg c1, if_neg c1]
  by_cases c2 : m_X7_has (sU z) x2 = 0
  · rw [if_pos c2, if_pos c2]; exact Or.inr ⟨_, e21, rfl, rfl⟩
  rw [if_neg c2, if_neg c2]
  by_cases c3 : m_X8_isPart x3 = 0
  · rw [if_pos c3, if_pos c3]; exact Or.inr ⟨_, e21, rfl, rfl⟩
  have i3 := part_iv c3
  rw [if_neg c3, if_neg c3, ru_k h.1 ok.1 c1, ru_k h.1 ok.1 c2, ru_p h.1 ok.1 c1, ru_p h.1 ok.1 c2, ru_q h.1 ok.1 c1, ru_q h.1 ok.1 c2]
  have iu := u_iv h hr c1
  have iw := u_iv h hr c2
  have hb1 := bit_eq iu.2.2.2 i3
  have hb2 := bit_eq iw.2.2.2 i3
  rcases take_why h hr c1 c2 i3 with ⟨w1, w2, w3, w4, w5, w6, w7⟩ | ⟨w, w'⟩
  case inr =>
    have t1 : (if m_X7_isOfKindAt (sU z) x1 (uK (sU z) x2.toNatClampNeg) (uP (sU z) x2.toNatClampNeg) = 0 then ((-3 : Int32), z) else if m_X7_hasPart (sU z) x1 x3 = 0 then ((-3 : Int32), z) else if m_X7_hasPart (sU z) x2 x3 = 0 then
        (m_X1_between (m_X1_addOne (sD z) ((uO (sU z)) x2.toNatClampNeg) ((uO (sU z)) x1.toNatClampNeg) ((uK (sU z)) x2.toNatClampNeg) x3) ((uO (sU z)) x2.toNatClampNeg) ((uO (sU z)) x1.toNatClampNeg) ((uK (sU z)) x2.toNatClampNeg) x3, sD' (sK' (sU' z (uQ' (sU z) (upd (upd (uQ (sU z)) x1.toNatClampNeg (((uQ (sU z)) x1.toNatClampNeg) &&& (((1 : Int32) <<< (x3 &&& (31 : Int32))) ^^^ (-1 : Int32)))) x2.toNatClampNeg (((upd (uQ (sU z)) x1.toNatClampNeg (((uQ (sU z)) x1.toNatClampNeg) &&& (((1 : Int32) <<< (x3 &&& (31 : Int32))) ^^^ (-1 : Int32)))) x2.toNatClampNeg) ||| ((1 : Int32) <<< (x3 &&& (31 : Int32))))))) ((sK z) + (1 : Int32))) (m_X1_addOne (sD z) ((uO (sU z)) x2.toNatClampNeg) ((uO (sU z)) x1.toNatClampNeg) ((uK (sU z)) x2.toNatClampNeg) x3)) else ((-3 : Int32), z)) = ((-3 : Int32), z) := by
      rcases w with w | w | w
      · rw [if_pos w]
      · by_cases e : m_X7_isOfKindAt (sU z) x1 (uK (sU z) x2.toNatClampNeg) (uP (sU z) x2.toNatClampNeg) = 0
        · rw [if_pos e]
        · rw [if_neg e, if_pos w]
      · by_cases e : m_X7_isOfKindAt (sU z) x1 (uK (sU z) x2.toNatClampNeg) (uP (sU z) x2.toNatClampNeg) = 0
        · rw [if_pos e]
        · by_cases f : m_X7_hasPart (sU z) x1 x3 = 0
          · rw [if_neg e, if_pos f]
          · rw [if_neg e, if_neg f, if_neg w]
    rw [t1]
    refine Or.inr ⟨_, e22, ?_, rfl⟩
    rcases w' with w' | w' | w' | w'
    · rw [if_neg w']
    · by_cases e : uK (sU z) x1.toNatClampNeg = uK (sU z) x2.toNatClampNeg
      · rw [if_pos e, if_neg w']
      · rw [if_neg e]
    · by_cases e : uK (sU z) x1.toNatClampNeg = uK (sU z) x2.toNatClampNeg
      · by_cases f : uP (sU z) x1.toNatClampNeg = uP (sU z) x2.toNatClampNeg
        · rw [if_pos e, if_pos f, if_neg (fun q => hb1.1.mp q w')]
        · rw [if_pos e, if_neg f]
      · rw [if_neg e]
    · by_cases e : uK (sU z) x1.toNatClampNeg = uK (sU z) x2.toNatClampNeg
      · by_cases f : uP (sU z) x1.toNatClampNeg = uP (sU z) x2.toNatClampNeg
        · by_cases g : (uQ (sU z) x1.toNatClampNeg >>> (x3 &&& (31 : Int32))) &&& (1 : Int32) = 1
          · rw [if_pos e, if_pos f, if_pos g, if_neg (fun q => w' (hb2.2.mp q))]
          · rw [if_pos e, if_pos f, if_neg g]
        · rw [if_pos e, if_neg f]
      · rw [if_neg e]
  rw [if_pos w1, if_pos w2, if_pos (hb1.1.mpr w3), if_pos (hb2.2.mpr w4), if_neg w5, if_neg w6, if_pos w7]
  have g1 := has_in ok.1 c1
  have g2 := has_in ok.1 c2
  rw [bit_off iu.2.2.2 i3 w3]
  unfold m_X9_takeOn
  rw [ru_q h.1 ok.1 c1]
  have R1 : RS (sU' z (uQ' (sU z) (upd (uQ (sU z)) x1.toNatClampNeg (uQ (sU z) x1.toNatClampNeg ^^^ ((1 : Int32) <<< (x3 &&& (31 : Int32))))))) (m_X9_lay r x1 3 (uQ (sU z) x1.toNatClampNeg ^^^ ((1 : Int32) <<< (x3 &&& (31 : Int32))))) :=
    RS.frU h hr (rsU_parts h.1 ok.1 g1.1) (fun j hj => by have := iv_tnc (n := 16) g1.1 (by decide); rw [layk3 g1.1, pk_un (by omega)]) rfl
  have k1 := rok_lay3 hr g1.1 (iv_xor7 iu.2.2.2 i3)
  have B1 := BD_lay3 (v := uQ (sU z) x1.toNatClampNeg ^^^ ((1 : Int32) <<< (x3 &&& (31 : Int32)))) hB g1.1
  have q2 : m_X9_of (m_X9_lay r x1 3 (uQ (sU z) x1.toNatClampNeg ^^^ ((1 : Int32) <<< (x3 &&& (31 : Int32))))) x2 3 = upd (uQ (sU z)) x1.toNatClampNeg (uQ (sU z) x1.toNatClampNeg ^^^ ((1 : Int32) <<< (x3 &&& (31 : Int32)))) x2.toNatClampNeg := ru_q (x := x2) R1.1 (R1.ok k1).1 c2
  rw [q2]
  have i2 := (u_iv (x := x2) R1 k1 c2).2.2.2
  have R2 := RS.frU (z2 := sU' z (uQ' (sU z) (upd (upd (uQ (sU z)) x1.toNatClampNeg (uQ (sU z) x1.toNatClampNeg ^^^ ((1 : Int32) <<< (x3 &&& (31 : Int32))))) x2.toNatClampNeg (upd (uQ (sU z)) x1.toNatClampNeg (uQ (sU z) x1.toNatClampNeg ^^^ ((1 : Int32) <<< (x3 &&& (31 : Int32)))) x2.toNatClampNeg ||| ((1 : Int32) <<< (x3 &&& (31 : Int32))))))) R1 k1 (rsU_parts R1.1 (R1.ok k1).1 g2.1) (fun j hj => by have := iv_tnc (n := 16) g2.1 (by decide); rw [layk3 g2.1, pk_un (by omega)]) rfl
  have k2 := rok_lay3 k1 g2.1 (iv_or7 i2 i3)
  have B2 := BD_lay3 (v := upd (uQ (sU z)) x1.toNatClampNeg (uQ (sU z) x1.toNatClampNeg ^^^ ((1 : Int32) <<< (x3 &&& (31 : Int32)))) x2.toNatClampNeg ||| ((1 : Int32) <<< (x3 &&& (31 : Int32)))) B1 g2.1
  rw [kn6, show m_X9_lay (m_X9_lay r x1 3 _) x2 3 _ 6 = _ from R2.2.2.2.2.2.2.1]
  have R3 := RS_taken (v := sK z + 1) R2 k2
  have k3 := rok_c (k := 6) (v := sK z + 1) k2 (by omega)
  have B3 := BD_c (k := 6) (v := sK z + 1) B2 (by omega)
  obtain ⟨e1, e2, e3, e4⟩ := take_end (r := r) R3 k3 B3 hT c1 c2 i3 w1
  exact Or.inl ⟨rfl, e1, e2, e3, e4⟩
