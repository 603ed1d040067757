theorem in07_eq (x : Int32) : (m_X9_in x.toInt64 0 7 = 0 ↔ (x < 0 ∨ ¬ x ≤ 7)) := by
  have g0 : (0 : Int64).toInt = 0 := by decide
  have g4 : (7 : Int64).toInt = 7 := by decide
  constructor
  · intro e
    by_cases c1 : x < 0
    · exact Or.inl c1
    · refine Or.inr (fun c2 => ?_)
      rw [i32_lt, i32_0] at c1
      rw [i32_le, ii7] at c2
      rw [min_of (by rw [i64_i]; omega) (by rw [i64_i]; omega)] at e
      exact absurd e (by decide)
  · intro c
    refine min_0 ?_
    rw [i64_i]
    rcases c with c | c
    · rw [i32_lt, i32_0] at c; omega
    · rw [i32_le, ii7] at c; omega
theorem come_row {r : Nat → Int32} {n x1 x2 x3 : Int32} (h1 : r 1 = n) (hn : iv 0 15 n) : m_X9_comeOn r x1 x2 x3 = (n, upd (upd (upd (upd (upd (upd r (8 + 5 * n.toNatClampNeg) x1) (8 + 5 * n.toNatClampNeg + 1) x2) (8 + 5 * n.toNatClampNeg + 2) x2) (8 + 5 * n.toNatClampNeg + 3) x3) (8 + 5 * n.toNatClampNeg + 4) 0) 1 (n + 1)) := by
  unfold m_X9_comeOn
  rw [kn1, h1, layk0 hn, layk1 hn, layk2 hn, layk3 hn, layk4 hn]
  rw [pk_un (by omega), pk_un (by omega), pk_un (by omega), pk_un (by omega), pk_un (by omega), h1]
theorem a_come {z : StT} {r : Nat → Int32} {T : Int} {x1 x2 x3 : Int32} (h : RS z r) (hr : rOK r) (hB : BD T r) : Act T z (m_X9_whyNotCome r x1 x2 x3) (m_X5_tryCome z x1 x2 x3) (m_X9_comeOn r x1 x2 x3) es3 := by
  have ok := h.ok hr
  unfold m_X9_whyNotCome m_X5_tryCome
  rw [kind_eq, hold_eq]
  by_cases c1 : m_X8_isKind x1 = 0
  · rw [if_pos c1, if_pos c1]; exact Or.inr ⟨_, e31, rfl, rfl⟩
  rw [if_neg c1, if_neg c1]
  by_cases c2 : m_X8_isHolder x2 = 0
  · rw [if_pos c2, if_pos c2]; exact Or.inr ⟨_, e31, rfl, rfl⟩
  rw [if_neg c2, if_neg c2]
  by_cases c3 : x3 < 0
  · rw [if_pos ((in07_eq x3).mpr (Or.inl c3)), if_pos c3]; exact Or.inr ⟨_, e32, rfl, rfl⟩
  rw [if_neg c3]
  by_cases c4 : x3 ≤ 7
  case neg => rw [if_pos ((in07_eq x3).mpr (Or.inr c4)), if_neg c4]; exact Or.inr ⟨_, e32, rfl, rfl⟩
  rw [if_neg (fun e => ((in07_eq x3).mp e).elim c3 (fun q => q c4)), if_pos c4, kn1, h.1.1]
  by_cases c5 : uN (sU z) < 16
  case neg =>
    have e16 : uN (sU z) = 16 := i32_eq (by
      rw [i32_lt, ii16] at c5
      have := ok.1.2
      rw [ii16]; omega)
    rw [if_pos e16, if_neg c5]; exact Or.inr ⟨_, e33, rfl, rfl⟩
  have hn : iv 0 15 (uN (sU z)) := by
    rw [i32_lt, ii16] at c5
    exact ⟨ok.1.1, by omega⟩
  rw [if_neg (fun e => by rw [e] at c5; exact absurd c5 (by decide)), if_pos c5, come_row h.1.1 hn]
  have hN := iv_tnc (n := 16) hn (by decide)
  have s1 : (uN (sU z) + 1).toInt = (uN (sU z)).toInt + 1 := by
    have := hn.1
    have := hn.2
    rw [i32_add (by rw [i32_1]; omega) (by rw [i32_1]; omega), i32_1]
  have ha : m_X7_add (sU z) x1 x2 x3 = (uN (sU z), uD' (uP' (uO' (uN' (uQ' (uK' (sU z) (upd (uK (sU z)) (uN (sU z)).toNatClampNeg x1)) (upd (uQ (sU z)) (uN (sU z)).toNatClampNeg x3)) (uN (sU z) + 1)) (upd (uO (sU z)) (uN (sU z)).toNatClampNeg x2)) (upd (uP (sU z)) (uN (sU z)).toNatClampNeg x2)) (upd (uD (sU z)) (uN (sU z)).toNatClampNeg (-1))) := by
    unfold m_X7_add
    rw [if_pos c5]
    unfold m_X7_giveTo
    rw [if_neg]
    · rfl
    · unfold m_X7_has
      rw [if_neg (by rw [i32_lt, i32_0]; have := hn.1; omega), if_neg]
      · decide
      · show ¬ uN (sU z) + 1 ≤ uN (sU z)
        rw [i32_le, s1]
        omega
  rw [ha]
  refine Or.inl ⟨rfl, rfl, hn.1, ?_, BD_up (T := T) (BD.fr hB (fun j hj => ?_) (fun u hu => ?_)) (by omega)⟩
  · refine RS.frU h hr ?_ (fun j hj => ?_) rfl
    · show rsV (upd (uK (sU z)) (uN (sU z)).toNatClampNeg x1) (upd (uO (sU z)) (uN (sU z)).toNatClampNeg x2) (upd (uP (sU z)) (uN (sU z)).toNatClampNeg x2) (upd (uQ (sU z)) (uN (sU z)).toNatClampNeg x3) (upd (uD (sU z)) (uN (sU z)).toNatClampNeg (-1)) (uN (sU z) + 1) (upd (upd (upd (upd (upd (upd r (8 + 5 * (uN (sU z)).toNatClampNeg) x1) (8 + 5 * (uN (sU z)).toNatClampNeg + 1) x2) (8 + 5 * (uN (sU z)).toNatClampNeg + 2) x2) (8 + 5 * (uN (sU z)).toNatClampNeg + 3) x3) (8 + 5 * (uN (sU z)).toNatClampNeg + 4) 0) 1 (uN (sU z) + 1))
      refine ⟨pk_us, fun u hu => ?_⟩
      by_cases e : u = (uN (sU z)).toNatClampNeg
      · rw [e]
        refine ⟨?_, ?_, ?_, ?_, fun _ => pk_us, fun n => absurd ?_ n⟩
        · rw [pk_un (by omega), pk_un (by omega), pk_un (by omega), pk_un (by omega), pk_un (by omega), pk_us, pk_us]
        · rw [pk_un (by omega), pk_un (by omega), pk_un (by omega), pk_un (by omega), pk_us, pk_us]
        · rw [pk_un (by omega), pk_un (by omega), pk_un (by omega), pk_us, pk_us]
        · rw [pk_un (by omega), pk_un (by omega), pk_us, pk_us]
        · rw [pk_us, pk_us]
      · have hu2 : u < (uN (sU z)).toNatClampNeg := by
          rw [tnc_d, s1] at hu
          rw [tnc_d] at e ⊢
          have := hn.1
          omega
        have far : ∀ j : Nat, 8 ≤ j → (j < 8 + 5 * (uN (sU z)).toNatClampNeg) → upd (upd (upd (upd (upd (upd r (8 + 5 * (uN (sU z)).toNatClampNeg) x1) (8 + 5 * (uN (sU z)).toNatClampNeg + 1) x2) (8 + 5 * (uN (sU z)).toNatClampNeg + 2) x2) (8 + 5 * (uN (sU z)).toNatClampNeg + 3) x3) (8 + 5 * (uN (sU z)).toNatClampNeg + 4) 0) 1 (uN (sU z) + 1) j = r j := fun j h1 h2 => by
          rw [pk_un (by omega), pk_un (by omega), pk_un (by omega), pk_un (by omega), pk_un (by omega), pk_un (by omega)]
        rw [far _ (by omega) (by omega), far _ (by omega) (by omega), far _ (by omega) (by omega), far _ (by omega) (by omega), far _ (by omega) (by omega), pk_un e, pk_un e, pk_un e, pk_un e, pk_un e]
        exact h.1.2 u hu2
    · show upd (upd (upd (upd (upd (upd r (8 + 5 * (uN (sU z)).toNatClampNeg) x1) (8 + 5 * (uN (sU z)).toNatClampNeg + 1) x2) (8 + 5 * (uN (sU z)).toNatClampNeg + 2) x2) (8 + 5 * (uN (sU z)).toNatClampNeg + 3) x3) (8 + 5 * (uN (sU z)).toNatClampNeg + 4) 0) 1 (uN (sU z) + 1) j = r j
      rw [pk_un (by omega), pk_un (by omega), pk_un (by omega), pk_un (by omega), pk_un (by omega), pk_un (by omega)]
  · show upd (upd (upd (upd (upd (upd r (8 + 5 * (uN (sU z)).toNatClampNeg) x1) (8 + 5 * (uN (sU z)).toNatClampNeg + 1) x2) (8 + 5 * (uN (sU z)).toNatClampNeg + 2) x2) (8 + 5 * (uN (sU z)).toNatClampNeg + 3) x3) (8 + 5 * (uN (sU z)).toNatClampNeg + 4) 0) 1 (uN (sU z) + 1) j = r j
    rw [pk_un (by omega), pk_un (by omega), pk_un (by omega), pk_un (by omega), pk_un (by omega), pk_un (by omega)]
  · show 0 ≤ (upd (upd (upd (upd (upd (upd r (8 + 5 * (uN (sU z)).toNatClampNeg) x1) (8 + 5 * (uN (sU z)).toNatClampNeg + 1) x2) (8 + 5 * (uN (sU z)).toNatClampNeg + 2) x2) (8 + 5 * (uN (sU z)).toNatClampNeg + 3) x3) (8 + 5 * (uN (sU z)).toNatClampNeg + 4) 0) 1 (uN (sU z) + 1) (8 + 5 * u + 4)).toInt
    by_cases e : u = (uN (sU z)).toNatClampNeg
    · rw [e, pk_un (by omega), pk_us]; decide
    · rw [pk_un (by omega), pk_un (by omega), pk_un (by omega), pk_un (by omega), pk_un (by omega), pk_un (by omega)]
      exact hB.2.2.2.2.1 u hu
theorem pay_sU (z : StT) (a b v : Int32) : sU (m_X5_pay z a b v) = sU z ∧ sC (m_X5_pay z a b v) = sC z ∧ sD (m_X5_pay z a b v) = sD z ∧ sX (m_X5_pay z a b v) = sX z ∧ sT (m_X5_pay z a b v) = sT z := by
  unfold m_X5_pay
  by_cases d1 : m_X8_isHolder a = 0
  · rw [if_pos d1]
    by_cases d2 : m_X8_isHolder b = 0
    · rw [if_pos d2]; exact ⟨rfl, rfl, rfl, rfl, rfl⟩
    · rw [if_neg d2]; exact ⟨rfl, rfl, rfl, rfl, rfl⟩
  · rw [if_neg d1]
    by_cases d2 : m_X8_isHolder b = 0
    · rw [if_pos d2]; exact ⟨rfl, rfl, rfl, rfl, rfl⟩
    · rw [if_neg d2]; exact ⟨rfl, rfl, rfl, rfl, rfl⟩
theorem has_give {un : UnT} {u h x : Int32} (c : ¬ m_X7_has un x = 0) : ¬ m_X7_has (m_X7_giveTo un u h) x = 0 := by
  unfold m_X7_has at c ⊢
  rw [un_giveTo]
  exact c
theorem iv_p4 : iv 0 4 (4 : Int32) := iv_wide (iv_lit (v := 4) (by decide)) (by decide)
theorem a_exchange {z : StT} {r : Nat → Int32} {T : Int} {x1 x2 : Int32} (h : RS z r) (hr : rOK r) (hB : BD T r) : Act T z (m_X9_whyNotExchange r x1 x2) (m_X5_tryExchange z x1 x2) (m_X9_exchangeOn r x1 x2) es2 := by
  have ok := h.ok hr
  unfold m_X9_whyNotExchange m_X5_tryExchange
  rw [unit_eq h.1.1 ok.1, unit_eq h.1.1 ok.1]
  by_cases c1 : m_X7_has (sU z) x1 = 0
  · rw [if_pos c1, if_pos c1]; exact Or.inr ⟨_, e21, rfl, rfl⟩
  rw [if_neg c1, if_neg c1]
  by_cases c2 : m_X7_has (sU z) x2 = 0
  · rw [if_pos c2, if_pos c2]; exact Or.inr ⟨_, e21, rfl, rfl⟩
  rw [if_neg c2, if_neg c2, core_eq h.1 ok.1 c1, good_eq h.1 ok.1 c2, ru_k h.1 ok.1 c1, ru_k h.1 ok.1 c2]
  by_cases c3 : m_X7_isFreeCore (sU z) x1 = 0
  · rw [if_pos c3, if_pos c3]; exact Or.inr ⟨_, e22, rfl, rfl⟩
  rw [if_neg c3, if_neg c3]
  by_cases c4 : m_X7_isGoodSpare (sU z) x2 = 0
  · rw [if_pos c4, if_pos c4]; exact Or.inr ⟨_, e22, rfl, rfl⟩
  rw [if_neg c4, if_neg c4]
  by_cases c5 : uK (sU z) x1.toNatClampNeg = uK (sU z) x2.toNatClampNeg
  case neg => rw [if_neg c5, if_neg c5]; exact Or.inr ⟨_, e22, rfl, rfl⟩
  rw [if_pos c5, if_pos c5]
  have g1 := has_in ok.1 c1
  have g2 := has_in ok.1 c2
  have iu := u_iv h hr c1
  have hp := price_iv h hr hB c1
  unfold m_X9_exchangeOn
  rw [price_eq h hr c1, ru_o h.1 ok.1 c1, kn7]
  have R1 := RS_give (v := 4) h hr c1
  have k1 := rok_give hr g1.1 iv_p4
  have B1 := BD_give (v := 4) hB g1.1
  have R2 := RS_give (v := uO (sU z) x1.toNatClampNeg) R1 k1 (x := x2) (has_give c2)
  have k2 := rok_give k1 g2.1 iu.2.1
  have B2 := BD_give (v := uO (sU z) x1.toNatClampNeg) B1 g2.1
  have R3 := RS_pays (v := m_X5_priceForCore z x1) R2 k2 iu.2.1 iv_p4
  have k3 := rok_pays (c := m_X5_priceForCore z x1) k2 iu.2.1 iv_p4
  have B3 := BD_pays (v := m_X5_priceForCore z x1) B2 iu.2.1 iv_p4
  have e7 := R3.2.2.2.2.2.2.2.1
  rw [e7]
  exact Or.inl ⟨rfl, rfl, hp.1, RS_exch R3 k3, BD_up (BD_c B3 (by omega)) (by omega)⟩
/-- money to the outside -/
theorem RS_buys {z : StT} {r : Nat → Int32} {a v : Int32} (h : RS z r) (hr : rOK r) (ha : iv 0 4 a) : RS (m_X5_pay z a (-1) v) (upd (upd r (88 + a.toNatClampNeg) (r (88 + a.toNatClampNeg) - v)) 5 (r 5 + v)) := by
  have ok := h.ok hr
  have h1 := iv_tnc (n := 5) ha (by decide)
  unfold m_X5_pay
  rw [if_neg (hold_nz ha), if_pos (by decide)]
  refine ⟨?_, ?_, ?_, ?_, ?_, ?_⟩
  · exact rsU.fr (z := sU z) h.1 (fun j hj => by rw [pk_un (by omega), pk_un (by omega)]) ok.1
  · exact rsC.fr (z := sC z) h.2.1 (fun j hj => by rw [pk_un (by omega), pk_un (by omega)]) ok.2
  · exact rsD.fr (z := sD z) h.2.2.1 (fun j hj => by rw [pk_un (by omega), pk_un (by omega)])
  · intro i hi
    show _ = upd (sA z) a.toNatClampNeg (sA z a.toNatClampNeg - v) i
    rw [pk_un (by omega)]
    by_cases e : i = a.toNatClampNeg
    · rw [e, pk_us, pk_us, h.2.2.2.1 _ h1]
    · rw [pk_un (by omega), pk_un e, h.2.2.2.1 _ hi]
  · exact rsS.fr (z := sS z) h.2.2.2.2.1 (fun j hj => by rw [pk_un (by omega), pk_un (by omega)])
  · obtain ⟨a1, a2, a3, a4⟩ := h.2.2.2.2.2
    refine ⟨?_, ?_, ?_, ?_⟩
    · rw [pk_un (by omega), pk_un (by omega)]; exact a1
    · rw [pk_un (by omega), pk_un (by omega)]; exact a2
    · rw [pk_un (by omega), pk_un (by omega)]; exact a3
    · rw [pk_us, a4]; rfl
theorem bit_eq {q p : Int32} (hq : iv 0 7 q) (hp : iv 0 2 p) : ((q >>> (p &&& (31 : Int32))) &&& (1 : Int32) = 1 ↔ ¬ q &&& ((1 : Int32) <<< (p &&& (31 : Int32))) = 0) ∧ ((q >>> (p &&& (31 : Int32))) &&& (1 : Int32) = 0 ↔ q &&& ((1 : Int32) <<< (p &&& (31 : Int32))) = 0) := by
  have e : p = 0 ∨ p = 1 ∨ p = 2 := by
    have h1 := hp.1
    have h2 := hp.2
    have g : p.toInt = 0 ∨ p.toInt = 1 ∨ p.toInt = 2 := by omega
    rcases g with g | g | g
    · exact Or.inl (i32_eq (by rw [g]; decide))
    · exact Or.inr (Or.inl (i32_eq (by rw [g]; decide)))
    · exact Or.inr (Or.inr (i32_eq (by rw [g]; decide)))
  rcases e with e | e | e <;> subst e <;> (rcases iv7_or hq with e | e | e | e | e | e | e | e) <;> subst e <;> decide +kernel
theorem buy_row {r : Nat → Int32} {x1 x2 o v q : Int32} (hx : iv 0 15 x1) (ho : iv 0 4 o) (e4 : r 4 = v) (eq : m_X9_of r x1 3 = q) (eo : m_X9_of r x1 1 = o) : m_X9_buyOn r x1 x2 = (q ||| ((1 : Int32) <<< (x2 &&& (31 : Int32))), upd (upd (m_X9_lay r x1 3 (q ||| ((1 : Int32) <<< (x2 &&& (31 : Int32))))) (88 + o.toNatClampNeg) (m_X9_lay r x1 3 (q ||| ((1 : Int32) <<< (x2 &&& (31 : Int32)))) (88 + o.toNatClampNeg) - v)) 5 (m_X9_lay r x1 3 (q ||| ((1 : Int32) <<< (x2 &&& (31 : Int32)))) 5 + v)) := by
  have hX := iv_tnc (n := 16) hx (by decide)
  have hO := iv_tnc (n := 5) ho (by decide)
  have f88 : ((88 : Int32) + o).toNatClampNeg = 88 + o.toNatClampNeg := by
    have h1 := ho.1
    have h2 := ho.2
    have e : (88 : Int32).toInt = 88 := by decide
    rw [tnc_d, tnc_d, i32_add (by omega) (by omega), e]
    omega
  have w : ∀ (f : Nat → Int32) (b : Int32), m_X9_of (m_X9_lay f x1 3 b) x1 1 = m_X9_of f x1 1 := fun f b => by
    rw [ofk1 hx, ofk1 hx, layk3 hx, pk_un (by omega)]
  unfold m_X9_buyOn
  rw [eq, w, eo, f88, kn4, kn5]
  rw [layk3 hx]
  rw [pk_un (f := r) (j := 4) (by omega), e4]
  rw [pk_un (j := 5) (k := 88 + o.toNatClampNeg) (by omega), pk_un (j := 4) (k := 88 + o.toNatClampNeg) (by omega)]
  rw [pk_un (f := r) (j := 4) (by omega), e4]
  rw [ofk3 hx, pk_un (by omega), pk_un (by omega), pk_us]
theorem a_buy {z : StT} {r : Nat → Int32} {T : Int} {x1 x2 : Int32} (h : RS z r) (hr : rOK r) (hB : BD T r) : Act T z (m_X9_whyNotBuy r x1 x2) (m_X5_tryBuy z x1 x2) (m_X9_buyOn r x1 x2) es2 := by
  have ok := h.ok hr
  unfold m_X9_whyNotBuy m_X5_tryBuy
  rw [unit_eq h.1.1 ok.1, part_eq]
  by_cases c1 : m_X7_has (sU z) x1 = 0
  · rw [if_pos c1, if_pos c1]; exact Or.inr ⟨_, e21, rfl, rfl⟩
  rw [if_neg c1, if_neg c1]
  by_cases c2 : m_X8_isPart x2 = 0
  · rw [if_pos c2, if_pos c2]; exact Or.inr ⟨_, e21, rfl, rfl⟩
  rw [if_neg c2, if_neg c2, ru_q h.1 ok.1 c1]
  have iu := u_iv h hr c1
  have hb := bit_eq iu.2.2.2 (part_iv c2)
  have g := has_in ok.1 c1
  unfold m_X7_hasPart
  rw [if_neg c1]
  by_cases c3 : uQ (sU z) x1.toNatClampNeg &&& ((1 : Int32) <<< (x2 &&& (31 : Int32))) = 0
  · rw [if_pos c3, if_pos rfl, if_neg (fun e => hb.1.mp e c3)]
    have e4 := h.2.2.2.2.1 2 (by omega)
    rw [buy_row g.1 iu.2.1 e4 (ru_q h.1 ok.1 c1) (ru_o h.1 ok.1 c1)]
    have R1 : RS (sU' z (uQ' (sU z) (upd (uQ (sU z)) x1.toNatClampNeg (uQ (sU z) x1.toNatClampNeg ||| ((1 : Int32) <<< (x2 &&& (31 : Int32))))))) (m_X9_lay r x1 3 (uQ (sU z) x1.toNatClampNeg ||| ((1 : Int32) <<< (x2 &&& (31 : Int32))))) :=
      RS.frU h hr (rsU_parts h.1 ok.1 g.1) (fun j hj => by have := iv_tnc (n := 16) g.1 (by decide); rw [layk3 g.1, pk_un (by omega)]) rfl
    have k1 := rok_lay3 hr g.1 (iv_or7 iu.2.2.2 (part_iv c2))
    have B1 := BD_lay3 (v := uQ (sU z) x1.toNatClampNeg ||| ((1 : Int32) <<< (x2 &&& (31 : Int32)))) hB g.1
    have hO := iv_tnc (n := 5) iu.2.1 (by decide)
    have hq := iv_or7 iu.2.2.2 (part_iv c2)
    rw [(pay_sU _ _ _ _).1, kn2]
    refine Or.inl ⟨rfl, ?_, ?_, RS_buys R1 k1 iu.2.1, BD_up (T := T) (BD.fr B1 (fun j hj => ?_) (fun u hu => ?_)) (by omega)⟩
    · show upd (uQ (sU z)) x1.toNatClampNeg _ x1.toNatClampNeg = _
      rw [pk_us]
    · exact hq.1
    · show upd (upd _ _ _) 5 _ j = _
      rw [pk_un (by omega), pk_un (by omega)]
    · show 0 ≤ (upd (upd _ _ _) 5 _ (8 + 5 * u + 4)).toInt
      rw [pk_un (by omega), pk_un (by omega)]
      exact B1.2.2.2.2.1 u hu
  · rw [if_pos (hb.1.mpr c3), if_neg c3, if_neg (show ¬ (1 : Int32) = 0 by decide)]
    exact Or.inr ⟨_, e22, rfl, rfl⟩
theorem in199_iff (x : Int32) : m_X9_in x.toInt64 1 99 = 0 ↔ (x < 1 ∨ ¬ x ≤ 99) := by
  have g0 : (1 : Int64).toInt = 1 := by decide
  have g4 : (99 : Int64).toInt = 99 := by decide
  constructor
  · intro e
    by_cases c1 : x < 1
    · exact Or.inl c1
    · refine Or.inr (fun c2 => ?_)
      rw [i32_lt, i32_1] at c1
      rw [i32_le, ii99] at c2
      rw [min_of (by rw [i64_i]; omega) (by rw [i64_i]; omega)] at e
      exact absurd e (by decide)
  · intro c
    refine min_0 ?_
    rw [i64_i]
    rcases c with c | c
    · rw [i32_lt, i32_1] at c; omega
    · rw [i32_le, ii99] at c; omega
/-- days: the reference asks for the range itself -/
theorem a_days {z : StT} {r : Nat → Int32} {T : Int} {x1 : Int32} (h : RS z r) (hr : rOK r) (hB : BD T r) (hT : T ≤ 10000000) : Act T z (if m_X9_in x1.toInt64 1 99 = 0 then 1 else 0) (m_X5_tryDays z x1) (m_X9_daysOn r x1) [(1, -2)] := by
  unfold m_X5_tryDays
  by_cases c1 : x1 < 1
  · rw [if_pos c1, if_pos ((in199_iff x1).mpr (Or.inl c1))]; exact Or.inr ⟨_, List.mem_of_getElem? (i := 0) rfl, rfl, rfl⟩
  rw [if_neg c1]
  by_cases c2 : x1 ≤ 99
  case neg => rw [if_neg c2, if_pos ((in199_iff x1).mpr (Or.inr c2))]; exact Or.inr ⟨_, List.mem_of_getElem? (i := 0) rfl, rfl, rfl⟩
  rw [if_pos c2, if_neg (fun e => ((in199_iff x1).mp e).elim c1 (fun q => q c2))]
  have ok := h.ok hr
  have e0 := h.2.2.2.2.2.1
  have hb0 := hB.1
  rw [i32_lt, i32_1] at c1
  rw [i32_le, ii99] at c2
  rw [e0] at hb0
  have s1 : (sT z + x1).toInt = (sT z).toInt + x1.toInt := i32_add (by omega) (by omega)
  unfold m_X9_daysOn
  rw [kn0, pk_us, e0]
  refine Or.inl ⟨rfl, rfl, ?_, ?_, ?_⟩
  · show 0 ≤ (sT z + x1).toInt
    omega
  · refine ⟨rsU.fr (z := sU z) h.1 (fun j hj => pk_un (by omega)) ok.1, rsC.fr (z := sC z) h.2.1 (fun j hj => pk_un (by omega)) ok.2, rsD.fr (z := sD z) h.2.2.1 (fun j hj => pk_un (by omega)), rsA.fr (z := sA z) h.2.2.2.1 (fun j hj => pk_un (by omega)), rsS.fr (z := sS z) h.2.2.2.2.1 (fun j hj => pk_un (by omega)), ?_⟩
    obtain ⟨a1, a2, a3, a4⟩ := h.2.2.2.2.2
    show rsN (sT' z (sT z + x1)) (upd r 0 (sT z + x1))
    exact ⟨pk_us, (pk_un (by omega)).trans a2, (pk_un (by omega)).trans a3, (pk_un (by omega)).trans a4⟩
  · obtain ⟨b1, b2, b3, b4, b5, b6⟩ := hB
    refine ⟨?_, fun i hi => ?_, fun x hx q hq => ?_, ?_, fun u hu => ?_, fun x hx k hk => ?_⟩
    · show 0 ≤ (upd r 0 (sT z + x1) 0).toInt ∧ (upd r 0 (sT z + x1) 0).toInt ≤ T + 99
      rw [pk_us]; omega
    · show 0 ≤ (upd r 0 (sT z + x1) (93 + i)).toInt ∧ (upd r 0 (sT z + x1) (93 + i)).toInt ≤ T + 99
      rw [pk_un (by omega)]
      have := b2 i hi
      omega
    · show upd r 0 (sT z + x1) _ = 0
      rw [pk_un (by omega)]; exact b3 x hx q hq
    · show iv 0 99 (upd r 0 (sT z + x1) 2) ∧ iv 0 999 (upd r 0 (sT z + x1) 3) ∧ iv 0 999 (upd r 0 (sT z + x1) 4)
      rw [pk_un (by omega), pk_un (by omega), pk_un (by omega)]; exact b4
    · show 0 ≤ (upd r 0 (sT z + x1) _).toInt
      rw [pk_un (by omega)]; exact b5 u hu
    · show 0 ≤ (upd r 0 (sT z + x1) _).toInt
      rw [pk_un (by omega)]; exact b6 x hx k hk
