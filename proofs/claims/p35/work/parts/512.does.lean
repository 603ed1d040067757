/-! the reference's 'does' beside the class's try -/
def Dos (T : Int) (z : StT) (r : Nat → Int32) (t : Int32 × StT) (d : Int32 × (Nat → Int32)) : Prop := (d = (0, r) ∧ t.1 < 0 ∧ t.2 = z) ∨ (d.1 = 1 ∧ ¬ t.1 < 0 ∧ RS t.2 d.2 ∧ BD (T + 99) d.2)
theorem dos_of {T : Int} {z : StT} {r : Nat → Int32} {w : Int32} {t : Int32 × StT} {o : Int32 × (Nat → Int32)} {es : List (Int32 × Int32)} (h : Act T z w t o es) (he : ∀ e ∈ es, e.2 < 0 ∧ ¬ e.1 = 0) : Dos T z r t (if w = 0 then (if o.1 < 0 then ((0 : Int32), o.2) else ((1 : Int32), o.2)) else ((0 : Int32), r)) := by
  rcases h with ⟨h1, h2, h3, h4, h5⟩ | ⟨e, h1, h2, h3⟩
  · have n : ¬ o.1 < 0 := by rw [i32_lt, i32_0]; omega
    rw [if_pos h1, if_neg n]
    exact Or.inr ⟨rfl, by rw [h2]; exact n, h4, h5⟩
  · have g := he e h1
    rw [if_neg (by rw [h2]; exact g.2), h3]
    exact Or.inl ⟨rfl, g.1, rfl⟩
theorem es3_neg : ∀ e ∈ es3, e.2 < 0 ∧ ¬ e.1 = 0 := by decide
theorem es2_neg : ∀ e ∈ es2, e.2 < 0 ∧ ¬ e.1 = 0 := by decide
section DOES
variable {z : StT} {r : Nat → Int32} {T : Int} {a b c : Int32}
theorem do_come : m_X9_does r 110 a b c = if m_X9_whyNotCome r a b c = 0 then (if (m_X9_comeOn r a b c).1 < 0 then ((0 : Int32), (m_X9_comeOn r a b c).2) else ((1 : Int32), (m_X9_comeOn r a b c).2)) else ((0 : Int32), r) := by
  unfold m_X9_does
  rw [if_neg (show ¬ (110 : Int32) = 97 by decide), if_neg (show ¬ (110 : Int32) = 98 by decide), if_neg (show ¬ (110 : Int32) = 99 by decide), if_neg (show ¬ (110 : Int32) = 100 by decide), if_neg (show ¬ (110 : Int32) = 101 by decide), if_neg (show ¬ (110 : Int32) = 102 by decide), if_neg (show ¬ (110 : Int32) = 103 by decide), if_neg (show ¬ (110 : Int32) = 104 by decide), if_neg (show ¬ (110 : Int32) = 105 by decide), if_neg (show ¬ (110 : Int32) = 106 by decide), if_neg (show ¬ (110 : Int32) = 107 by decide), if_neg (show ¬ (110 : Int32) = 108 by decide), if_neg (show ¬ (110 : Int32) = 109 by decide), if_pos (show (110 : Int32) = 110 from rfl)]
theorem d_come (h : RS z r) (hr : rOK r) (hB : BD T r) : Dos T z r (m_X5_tryCome z a b c) (m_X9_does r 110 a b c) := by
  rw [do_come]
  exact dos_of (a_come h hr hB) es3_neg
theorem do_lend : m_X9_does r 108 a b c = if m_X9_whyNotLend r a b c = 0 then (if (m_X9_lendOn r a b c).1 < 0 then ((0 : Int32), (m_X9_lendOn r a b c).2) else ((1 : Int32), (m_X9_lendOn r a b c).2)) else ((0 : Int32), r) := by
  unfold m_X9_does
  rw [if_neg (show ¬ (108 : Int32) = 97 by decide), if_neg (show ¬ (108 : Int32) = 98 by decide), if_neg (show ¬ (108 : Int32) = 99 by decide), if_neg (show ¬ (108 : Int32) = 100 by decide), if_neg (show ¬ (108 : Int32) = 101 by decide), if_neg (show ¬ (108 : Int32) = 102 by decide), if_neg (show ¬ (108 : Int32) = 103 by decide), if_neg (show ¬ (108 : Int32) = 104 by decide), if_neg (show ¬ (108 : Int32) = 105 by decide), if_neg (show ¬ (108 : Int32) = 106 by decide), if_neg (show ¬ (108 : Int32) = 107 by decide), if_pos (show (108 : Int32) = 108 from rfl)]
theorem d_lend (h : RS z r) (hr : rOK r) (hB : BD T r) (hT : T ≤ 10000000) : Dos T z r (m_X5_tryLend z a b c) (m_X9_does r 108 a b c) := by
  rw [do_lend]
  exact dos_of (a_lend h hr hB hT) es3_neg
theorem do_bring : m_X9_does r 114 a b c = if m_X9_whyNotBring r a = 0 then (if (m_X9_bringOn r a).1 < 0 then ((0 : Int32), (m_X9_bringOn r a).2) else ((1 : Int32), (m_X9_bringOn r a).2)) else ((0 : Int32), r) := by
  unfold m_X9_does
  rw [if_neg (show ¬ (114 : Int32) = 97 by decide), if_neg (show ¬ (114 : Int32) = 98 by decide), if_neg (show ¬ (114 : Int32) = 99 by decide), if_neg (show ¬ (114 : Int32) = 100 by decide), if_neg (show ¬ (114 : Int32) = 101 by decide), if_neg (show ¬ (114 : Int32) = 102 by decide), if_neg (show ¬ (114 : Int32) = 103 by decide), if_neg (show ¬ (114 : Int32) = 104 by decide), if_neg (show ¬ (114 : Int32) = 105 by decide), if_neg (show ¬ (114 : Int32) = 106 by decide), if_neg (show ¬ (114 : Int32) = 107 by decide), if_neg (show ¬ (114 : Int32) = 108 by decide), if_neg (show ¬ (114 : Int32) = 109 by decide), if_neg (show ¬ (114 : Int32) = 110 by decide), if_neg (show ¬ (114 : Int32) = 111 by decide), if_neg (show ¬ (114 : Int32) = 112 by decide), if_neg (show ¬ (114 : Int32) = 113 by decide), if_pos (show (114 : Int32) = 114 from rfl)]
theorem d_bring (h : RS z r) (hr : rOK r) (hB : BD T r) (hT : T ≤ 10000000) : Dos T z r (m_X5_tryBring z a) (m_X9_does r 114 a b c) := by
  rw [do_bring]
  exact dos_of (a_bring h hr hB hT) es2_neg
theorem do_exchange : m_X9_does r 120 a b c = if m_X9_whyNotExchange r a b = 0 then (if (m_X9_exchangeOn r a b).1 < 0 then ((0 : Int32), (m_X9_exchangeOn r a b).2) else ((1 : Int32), (m_X9_exchangeOn r a b).2)) else ((0 : Int32), r) := by
  unfold m_X9_does
  rw [if_neg (show ¬ (120 : Int32) = 97 by decide), if_neg (show ¬ (120 : Int32) = 98 by decide), if_neg (show ¬ (120 : Int32) = 99 by decide), if_neg (show ¬ (120 : Int32) = 100 by decide), if_neg (show ¬ (120 : Int32) = 101 by decide), if_neg (show ¬ (120 : Int32) = 102 by decide), if_neg (show ¬ (120 : Int32) = 103 by decide), if_neg (show ¬ (120 : Int32) = 104 by decide), if_neg (show ¬ (120 : Int32) = 105 by decide), if_neg (show ¬ (120 : Int32) = 106 by decide), if_neg (show ¬ (120 : Int32) = 107 by decide), if_neg (show ¬ (120 : Int32) = 108 by decide), if_neg (show ¬ (120 : Int32) = 109 by decide), if_neg (show ¬ (120 : Int32) = 110 by decide), if_neg (show ¬ (120 : Int32) = 111 by decide), if_neg (show ¬ (120 : Int32) = 112 by decide), if_neg (show ¬ (120 : Int32) = 113 by decide), if_neg (show ¬ (120 : Int32) = 114 by decide), if_neg (show ¬ (120 : Int32) = 115 by decide), if_neg (show ¬ (120 : Int32) = 116 by decide), if_neg (show ¬ (120 : Int32) = 117 by decide), if_neg (show ¬ (120 : Int32) = 118 by decide), if_neg (show ¬ (120 : Int32) = 119 by decide), if_pos (show (120 : Int32) = 120 from rfl)]
theorem d_exchange (h : RS z r) (hr : rOK r) (hB : BD T r) : Dos T z r (m_X5_tryExchange z a b) (m_X9_does r 120 a b c) := by
  rw [do_exchange]
  exact dos_of (a_exchange h hr hB) es2_neg
theorem do_advance : m_X9_does r 97 a b c = if m_X9_whyNotAdvance r a b c = 0 then (if (m_X9_advanceOn r a b c).1 < 0 then ((0 : Int32), (m_X9_advanceOn r a b c).2) else ((1 : Int32), (m_X9_advanceOn r a b c).2)) else ((0 : Int32), r) := by
  unfold m_X9_does
  rw [if_pos (show (97 : Int32) = 97 from rfl)]
theorem d_advance (h : RS z r) (hr : rOK r) (hB : BD T r) (hT : T ≤ 10000000) : Dos T z r (m_X5_tryAdvance z a b c) (m_X9_does r 97 a b c) := by
  rw [do_advance]
  exact dos_of (a_advance h hr hB hT) es3_neg
theorem do_deliver : m_X9_does r 118 a b c = if m_X9_whyNotDeliver r a = 0 then (if (m_X9_deliverOn r a).1 < 0 then ((0 : Int32), (m_X9_deliverOn r a).2) else ((1 : Int32), (m_X9_deliverOn r a).2)) else ((0 : Int32), r) := by
  unfold m_X9_does
  rw [if_neg (show ¬ (118 : Int32) = 97 by decide), if_neg (show ¬ (118 : Int32) = 98 by decide), if_neg (show ¬ (118 : Int32) = 99 by decide), if_neg (show ¬ (118 : Int32) = 100 by decide), if_neg (show ¬ (118 : Int32) = 101 by decide), if_neg (show ¬ (118 : Int32) = 102 by decide), if_neg (show ¬ (118 : Int32) = 103 by decide), if_neg (show ¬ (118 : Int32) = 104 by decide), if_neg (show ¬ (118 : Int32) = 105 by decide), if_neg (show ¬ (118 : Int32) = 106 by decide), if_neg (show ¬ (118 : Int32) = 107 by decide), if_neg (show ¬ (118 : Int32) = 108 by decide), if_neg (show ¬ (118 : Int32) = 109 by decide), if_neg (show ¬ (118 : Int32) = 110 by decide), if_neg (show ¬ (118 : Int32) = 111 by decide), if_neg (show ¬ (118 : Int32) = 112 by decide), if_neg (show ¬ (118 : Int32) = 113 by decide), if_neg (show ¬ (118 : Int32) = 114 by decide), if_neg (show ¬ (118 : Int32) = 115 by decide), if_neg (show ¬ (118 : Int32) = 116 by decide), if_neg (show ¬ (118 : Int32) = 117 by decide), if_pos (show (118 : Int32) = 118 from rfl)]
theorem d_deliver (h : RS z r) (hr : rOK r) (hB : BD T r) (hT : T ≤ 10000000) : Dos T z r (m_X5_tryDeliver z a) (m_X9_does r 118 a b c) := by
  rw [do_deliver]
  exact dos_of (a_deliver h hr hB hT) es2_neg
theorem do_take : m_X9_does r 116 a b c = if m_X9_whyNotTake r a b c = 0 then (if (m_X9_takeOn r a b c).1 < 0 then ((0 : Int32), (m_X9_takeOn r a b c).2) else ((1 : Int32), (m_X9_takeOn r a b c).2)) else ((0 : Int32), r) := by
  unfold m_X9_does
  rw [if_neg (show ¬ (116 : Int32) = 97 by decide), if_neg (show ¬ (116 : Int32) = 98 by decide), if_neg (show ¬ (116 : Int32) = 99 by decide), if_neg (show ¬ (116 : Int32) = 100 by decide), if_neg (show ¬ (116 : Int32) = 101 by decide), if_neg (show ¬ (116 : Int32) = 102 by decide), if_neg (show ¬ (116 : Int32) = 103 by decide), if_neg (show ¬ (116 : Int32) = 104 by decide), if_neg (show ¬ (116 : Int32) = 105 by decide), if_neg (show ¬ (116 : Int32) = 106 by decide), if_neg (show ¬ (116 : Int32) = 107 by decide), if_neg (show ¬ (116 : Int32) = 108 by decide), if_neg (show ¬ (116 : Int32) = 109 by decide), if_neg (show ¬ (116 : Int32) = 110 by decide), if_neg (show ¬ (116 : Int32) = 111 by decide), if_neg (show ¬ (116 : Int32) = 112 by decide), if_neg (show ¬ (116 : Int32) = 113 by decide), if_neg (show ¬ (116 : Int32) = 114 by decide), if_neg (show ¬ (116 : Int32) = 115 by decide), if_pos (show (116 : Int32) = 116 from rfl)]
theorem d_take (h : RS z r) (hr : rOK r) (hB : BD T r) (hT : T ≤ 10000000) : Dos T z r (m_X5_tryTake z a b c) (m_X9_does r 116 a b c) := by
  rw [do_take]
  exact dos_of (a_take h hr hB hT) es2_neg
theorem do_buy : m_X9_does r 98 a b c = if m_X9_whyNotBuy r a b = 0 then (if (m_X9_buyOn r a b).1 < 0 then ((0 : Int32), (m_X9_buyOn r a b).2) else ((1 : Int32), (m_X9_buyOn r a b).2)) else ((0 : Int32), r) := by
  unfold m_X9_does
  rw [if_neg (show ¬ (98 : Int32) = 97 by decide), if_pos (show (98 : Int32) = 98 from rfl)]
theorem d_buy (h : RS z r) (hr : rOK r) (hB : BD T r) : Dos T z r (m_X5_tryBuy z a b) (m_X9_does r 98 a b c) := by
  rw [do_buy]
  exact dos_of (a_buy h hr hB) es2_neg
theorem do_days : m_X9_does r 100 a b c = if m_X9_in a.toInt64 1 99 = 0 then ((0 : Int32), r) else if (m_X9_daysOn r a).1 ≤ 0 then ((0 : Int32), (m_X9_daysOn r a).2) else ((1 : Int32), (m_X9_daysOn r a).2) := by
  unfold m_X9_does
  rw [if_neg (show ¬ (100 : Int32) = 97 by decide), if_neg (show ¬ (100 : Int32) = 98 by decide), if_neg (show ¬ (100 : Int32) = 99 by decide), if_pos (show (100 : Int32) = 100 from rfl)]
theorem days_pos (h : RS z r) (hB : BD T r) (hT : T ≤ 10000000) (n : ¬ m_X9_in a.toInt64 1 99 = 0) : ¬ (m_X9_daysOn r a).1 ≤ 0 := by
  have g : iv 1 99 a := iv_min n
  have g1 := g.1
  have g2 := g.2
  have b := hB.1
  unfold m_X9_daysOn
  rw [kn0, pk_us, i32_le, i32_0, i32_add (by omega) (by omega)]
  omega
theorem d_days (h : RS z r) (hr : rOK r) (hB : BD T r) (hT : T ≤ 10000000) : Dos T z r (m_X5_tryDays z a) (m_X9_does r 100 a b c) := by
  have A := a_days (x1 := a) h hr hB hT
  rw [do_days]
  by_cases c0 : m_X9_in a.toInt64 1 99 = 0
  · rw [if_pos c0]
    rw [if_pos c0] at A
    rcases A with ⟨h1, -⟩ | ⟨e, h1, h2, h3⟩
    · exact absurd h1 (by decide)
    · rw [List.mem_singleton] at h1
      subst h1
      rw [h3]
      exact Or.inl ⟨rfl, (by show (-2 : Int32) < 0; decide), rfl⟩
  · rw [if_neg c0, if_neg (days_pos h hB hT c0)]
    rw [if_neg c0] at A
    rcases A with ⟨-, h2, h3, h4, h5⟩ | ⟨e, h1, h2, h3⟩
    · exact Or.inr ⟨rfl, (by rw [h2, i32_lt, i32_0]; omega), h4, h5⟩
    · rw [List.mem_singleton] at h1
      subst h1
      exact absurd h2 (by decide)
/-- settle in a simulation: the reference asks why not, then does it -/
theorem d_settle {d : Int32} (h : RS z r) (hr : rOK r) (hB : BD T r) (hT : T ≤ 10000000) : (m_X9_whyNotSettle r a b c d = 0 ∧ RS (m_X5_trySettle z a b c d).2 (m_X9_settleOn r a b c d).2 ∧ BD (T + 99) (m_X9_settleOn r a b c d).2) ∨ (¬ m_X9_whyNotSettle r a b c d = 0 ∧ (m_X5_trySettle z a b c d).2 = z) := by
  rcases a_settle (x1 := a) (x2 := b) (x3 := c) (x4 := d) h hr hB hT with ⟨h1, h2, h3, h4, h5⟩ | ⟨e, h1, h2, h3⟩
  · exact Or.inl ⟨h1, h4, h5⟩
  · exact Or.inr ⟨by rw [h2]; exact (es2_neg e h1).2, by rw [h3]⟩
end DOES
theorem fxM_eq : fxM 0 = 99 ∧ fxM 1 = 999 ∧ fxM 2 = 999 := by decide
theorem sett_eq (x : Int32) : (m_X9_in x.toInt64 0 2 = 0 ↔ m_X8_isSetting x = 0) := by
  have e : m_X9_in x.toInt64 0 2 = m_X8_isSetting x := kind_eq x
  rw [e]
theorem in0_iff {x : Int32} {B : Int64} {C : Int32} (hB : B.toInt = C.toInt) : m_X9_in x.toInt64 0 B = 0 ↔ (x < 0 ∨ ¬ x ≤ C) := by
  have g0 : (0 : Int64).toInt = 0 := by decide
  constructor
  · intro e
    by_cases c1 : x < 0
    · exact Or.inl c1
    · refine Or.inr (fun c2 => ?_)
      rw [i32_lt, i32_0] at c1
      rw [i32_le] at c2
      rw [min_of (by rw [i64_i]; omega) (by rw [i64_i]; omega)] at e
      exact absurd e (by decide)
  · intro c
    refine min_0 ?_
    rw [i64_i]
    rcases c with c | c
    · rw [i32_lt, i32_0] at c; omega
    · rw [i32_le] at c; omega
theorem set3 {x : Int32} (h : ¬ m_X8_isSetting x = 0) : x = 0 ∨ x = 1 ∨ x = 2 := by
  have g := hs_isSetting h
  have q : x.toInt = 0 ∨ x.toInt = 1 ∨ x.toInt = 2 := by omega
  rcases q with q | q | q
  · exact Or.inl (i32_eq (by rw [q]; decide))
  · exact Or.inr (Or.inl (i32_eq (by rw [q]; decide)))
  · exact Or.inr (Or.inr (i32_eq (by rw [q]; decide)))
/-- why not set, as the reference has it in its order -/
def whySet (x v : Int32) : Int32 := if m_X8_isSetting x = 0 ∨ v < 0 ∨ ¬ v ≤ fxM x.toNatClampNeg then 1 else 0
theorem a_set {z : StT} {r : Nat → Int32} {T : Int} {x v : Int32} (h : RS z r) (hr : rOK r) (hB : BD T r) : Act T z (whySet x v) (m_X5_trySet z x v) (r (2 + x).toNatClampNeg, upd r (2 + x).toNatClampNeg v) [(1, -2)] := by
  have ok := h.ok hr
  unfold m_X5_trySet whySet
  by_cases c1 : m_X8_isSetting x = 0
  · rw [if_pos c1, if_pos (Or.inl c1)]; exact Or.inr ⟨_, List.mem_of_getElem? (i := 0) rfl, rfl, rfl⟩
  rw [if_neg c1]
  by_cases c2 : v < 0
  · rw [if_pos c2, if_pos (Or.inr (Or.inl c2))]; exact Or.inr ⟨_, List.mem_of_getElem? (i := 0) rfl, rfl, rfl⟩
  rw [if_neg c2]
  by_cases c3 : v ≤ fxM x.toNatClampNeg
  case neg => rw [if_neg c3, if_pos (Or.inr (Or.inr c3))]; exact Or.inr ⟨_, List.mem_of_getElem? (i := 0) rfl, rfl, rfl⟩
  rw [if_pos c3, if_neg (fun q => q.elim c1 (fun q => q.elim c2 (fun q => q c3)))]
  have s3 := hs_isSetting c1
  have ix : ((2 : Int32) + x).toNatClampNeg = 2 + x.toNatClampNeg := by
    rw [tnc_d, tnc_d, i32_add (by rw [ii2]; omega) (by rw [ii2]; omega), ii2]
    omega
  have x3 : x.toNatClampNeg < 3 := by rw [tnc_d]; omega
  rw [ix]
  have b4 := hB.2.2.2.1
  rw [i32_lt, i32_0] at c2
  rw [i32_le] at c3
  have es := h.2.2.2.2.1 _ x3
  refine Or.inl ⟨rfl, es.symm, ?_, ?_, ?_⟩
  · show 0 ≤ (r (2 + x.toNatClampNeg)).toInt
    rcases set3 c1 with e | e | e
    · subst e; exact b4.1.1
    · subst e; exact b4.2.1.1
    · subst e; exact b4.2.2.1
  · refine ⟨rsU.fr (z := sU z) h.1 (fun j hj => pk_un (by omega)) ok.1, rsC.fr (z := sC z) h.2.1 (fun j hj => pk_un (by omega)) ok.2, rsD.fr (z := sD z) h.2.2.1 (fun j hj => pk_un (by omega)), rsA.fr (z := sA z) h.2.2.2.1 (fun j hj => pk_un (by omega)), ?_, ?_⟩
    · intro i hi
      show upd r (2 + x.toNatClampNeg) v (2 + i) = upd (sS z) x.toNatClampNeg v i
      by_cases e : i = x.toNatClampNeg
      · rw [e, pk_us, pk_us]
      · rw [pk_un (by omega), pk_un e]; exact h.2.2.2.2.1 i hi
    · exact rsN.fr (z := z) h.2.2.2.2.2 (fun j hj => pk_un (by omega))
  · show BD (T + 99) (upd r (2 + x.toNatClampNeg) v)
    refine BD_up (T := T) ?_ (by omega)
    obtain ⟨b1, b2, b3, -, b5, b6⟩ := hB
    refine ⟨by rw [pk_un (by omega)]; exact b1, fun i hi => by rw [pk_un (by omega)]; exact b2 i hi, fun x hx q hq => by rw [pk_un (by omega)]; exact b3 x hx q hq, ?_, fun u hu => by rw [pk_un (by omega)]; exact b5 u hu, fun x hx k hk => by rw [pk_un (by omega)]; exact b6 x hx k hk⟩
    rcases set3 c1 with e | e | e
    · subst e
      have c3 : v.toInt ≤ (99 : Int32).toInt := c3
      rw [ii99] at c3
      show iv 0 99 (upd r 2 v 2) ∧ iv 0 999 (upd r 2 v 3) ∧ iv 0 999 (upd r 2 v 4)
      rw [pk_us, pk_un (by omega), pk_un (by omega)]
      exact ⟨⟨by omega, by omega⟩, b4.2.1, b4.2.2⟩
    · subst e
      have c3 : v.toInt ≤ (999 : Int32).toInt := c3
      rw [show (999 : Int32).toInt = 999 by decide] at c3
      show iv 0 99 (upd r 3 v 2) ∧ iv 0 999 (upd r 3 v 3) ∧ iv 0 999 (upd r 3 v 4)
      rw [pk_us, pk_un (by omega), pk_un (by omega)]
      exact ⟨b4.1, ⟨by omega, by omega⟩, b4.2.2⟩
    · subst e
      have c3 : v.toInt ≤ (999 : Int32).toInt := c3
      rw [show (999 : Int32).toInt = 999 by decide] at c3
      show iv 0 99 (upd r 4 v 2) ∧ iv 0 999 (upd r 4 v 3) ∧ iv 0 999 (upd r 4 v 4)
      rw [pk_us, pk_un (by omega), pk_un (by omega)]
      exact ⟨b4.1, b4.2.1, ⟨by omega, by omega⟩⟩
theorem ws_1 {x v : Int32} (h : m_X8_isSetting x = 0 ∨ v < 0 ∨ ¬ v ≤ fxM x.toNatClampNeg) : whySet x v = 1 := if_pos h
theorem ws_0 {x v : Int32} (h : ¬ (m_X8_isSetting x = 0 ∨ v < 0 ∨ ¬ v ≤ fxM x.toNatClampNeg)) : whySet x v = 0 := if_neg h
theorem wset_eq {mo : MoT} {x v : Int32} : m_X9_set mo x v = if whySet x v = 0 then ((mN (m_X9_remember (mR' mo 0))) ((2 : Int32) + x).toNatClampNeg, mN' (m_X9_remember (mR' mo 0)) (upd (mN (m_X9_remember (mR' mo 0))) ((2 : Int32) + x).toNatClampNeg v)) else ((0 : Int32), mR' mo 1) := by
  unfold m_X9_set
  have e99 : (99 : Int64).toInt = (99 : Int32).toInt := by decide
  have e999 : (999 : Int64).toInt = (999 : Int32).toInt := by decide
  have in12 : m_X9_in x.toInt64 1 2 = 0 ↔ ¬ (x = 1 ∨ x = 2) := by
    have g0 : (1 : Int64).toInt = 1 := by decide
    have g4 : (2 : Int64).toInt = 2 := by decide
    constructor
    · intro e q
      rcases q with q | q
      · subst q; exact absurd e (by decide)
      · subst q; exact absurd e (by decide)
    · intro q
      refine min_0 ?_
      rw [i64_i]
      intro f
      have : x.toInt = 1 ∨ x.toInt = 2 := by omega
      rcases this with t | t
      · exact q (Or.inl (i32_eq (by rw [t]; decide)))
      · exact q (Or.inr (i32_eq (by rw [t]; decide)))
  have n10 : ¬ (1 : Int32) = 0 := by decide
  by_cases c : m_X8_isSetting x = 0
  · have n0 : ¬ x = 0 := fun e => by subst e; exact absurd c (by decide)
    have n12 : m_X9_in x.toInt64 1 2 = 0 := in12.mpr (fun q => q.elim (fun e => by subst e; exact absurd c (by decide)) (fun e => by subst e; exact absurd c (by decide)))
    rw [if_neg n0, if_pos n12, ws_1 (Or.inl c), if_neg n10]
  · rcases set3 c with e | e | e
    · subst e
      have fe : fxM (0 : Int32).toNatClampNeg = 99 := fxM_eq.1
      rw [if_pos rfl]
      by_cases q : m_X9_in v.toInt64 0 99 = 0
      · rw [if_pos q, if_pos (in12.mpr (by decide)), ws_1 (Or.inr (by rw [fe]; exact (in0_iff e99).mp q)), if_neg n10]
      · rw [if_neg q, ws_0 (by rw [fe]; exact fun w => w.elim c (fun w => q ((in0_iff e99).mpr w))), if_pos rfl]
    · subst e
      have fe : fxM (1 : Int32).toNatClampNeg = 999 := fxM_eq.2.1
      rw [if_neg n10, if_neg (fun w => in12.mp w (Or.inl rfl))]
      by_cases q : m_X9_in v.toInt64 0 999 = 0
      · rw [if_pos q, ws_1 (Or.inr (by rw [fe]; exact (in0_iff e999).mp q)), if_neg n10]
      · rw [if_neg q, ws_0 (by rw [fe]; exact fun w => w.elim c (fun w => q ((in0_iff e999).mpr w))), if_pos rfl]
    · subst e
      have fe : fxM (2 : Int32).toNatClampNeg = 999 := fxM_eq.2.2
      rw [if_neg (show ¬ (2 : Int32) = 0 by decide), if_neg (fun w => in12.mp w (Or.inr rfl))]
      by_cases q : m_X9_in v.toInt64 0 999 = 0
      · rw [if_pos q, ws_1 (Or.inr (by rw [fe]; exact (in0_iff e999).mp q)), if_neg n10]
      · rw [if_neg q, ws_0 (by rw [fe]; exact fun w => w.elim c (fun w => q ((in0_iff e999).mpr w))), if_pos rfl]
