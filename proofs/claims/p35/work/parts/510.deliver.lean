theorem rem_L {h x2 : Int32} (hh : iv 0 4 h) : ∀ (nF : Nat) (r : CoT) (i : Int32), 0 ≤ i.toInt → i.toInt < (cC r h.toNatClampNeg).toInt → (cC r h.toNatClampNeg).toInt ≤ 6 → ((cC r h.toNatClampNeg).toInt - i.toInt).toNat < nF →
    cC (m_X0_remove_L12 nF r h x2 i) = upd (cC r) h.toNatClampNeg (cC r h.toNatClampNeg - 1) ∧
    (∀ j : Nat, cK (m_X0_remove_L12 nF r h x2 i) j = if 6 * h.toNatClampNeg + i.toNatClampNeg ≤ j ∧ j + 1 < 6 * h.toNatClampNeg + (cC r h.toNatClampNeg).toNatClampNeg then cK r (j + 1) else cK r j) ∧
    (∀ j : Nat, cD (m_X0_remove_L12 nF r h x2 i) j = if 6 * h.toNatClampNeg + i.toNatClampNeg ≤ j ∧ j + 1 < 6 * h.toNatClampNeg + (cC r h.toNatClampNeg).toNatClampNeg then cD r (j + 1) else cD r j) := by
  intro nF
  induction nF with
  | zero => intro r i h0 h1 h2 hf; omega
  | succ nF ih =>
    intro r i h0 h1 h2 hf
    rw [m_X0_remove_L12]
    have hi : iv 0 5 i := ⟨h0, by omega⟩
    have a1 := add1_ix hi
    have gi := iv_int hi
    have gc : (cC r h.toNatClampNeg).toInt = (cC r h.toNatClampNeg).toNatClampNeg := by rw [tnc_d (cC r h.toNatClampNeg)]; omega
    by_cases c : cC r h.toNatClampNeg ≤ i + 1
    · rw [if_pos c]
      rw [i32_le, a1.1] at c
      refine ⟨rfl, fun j => ?_, fun j => ?_⟩
      · rw [if_neg (by omega)]; rfl
      · rw [if_neg (by omega)]; rfl
    · rw [if_neg c]
      rw [i32_le, a1.1] at c
      obtain ⟨x1, x2⟩ := core_ix hh hi
      rw [x1, x2]
      obtain ⟨k1, k2, k3⟩ := ih (cD' (cK' r (upd (cK r) (6 * h.toNatClampNeg + i.toNatClampNeg) (cK r (6 * h.toNatClampNeg + i.toNatClampNeg + 1)))) (upd (cD r) (6 * h.toNatClampNeg + i.toNatClampNeg) (cD r (6 * h.toNatClampNeg + i.toNatClampNeg + 1)))) (i + 1) (by omega) (by show (i + 1).toInt < (cC r h.toNatClampNeg).toInt; omega) h2 (by show ((cC r h.toNatClampNeg).toInt - (i + 1).toInt).toNat < nF; omega)
      refine ⟨k1, fun j => ?_, fun j => ?_⟩
      · refine (k2 j).trans ?_
        show (if 6 * h.toNatClampNeg + (i + 1).toNatClampNeg ≤ j ∧ j + 1 < 6 * h.toNatClampNeg + (cC r h.toNatClampNeg).toNatClampNeg then upd (cK r) (6 * h.toNatClampNeg + i.toNatClampNeg) (cK r (6 * h.toNatClampNeg + i.toNatClampNeg + 1)) (j + 1) else upd (cK r) (6 * h.toNatClampNeg + i.toNatClampNeg) (cK r (6 * h.toNatClampNeg + i.toNatClampNeg + 1)) j) = _
        rw [a1.2]
        by_cases e : j = 6 * h.toNatClampNeg + i.toNatClampNeg
        · rw [if_neg (by omega), if_pos (by omega), e, pk_us]
        · by_cases f : 6 * h.toNatClampNeg + (i.toNatClampNeg + 1) ≤ j ∧ j + 1 < 6 * h.toNatClampNeg + (cC r h.toNatClampNeg).toNatClampNeg
          · rw [if_pos f, if_pos (by omega), pk_un (by omega)]
          · rw [if_neg f, if_neg (by omega), pk_un e]
      · refine (k3 j).trans ?_
        show (if 6 * h.toNatClampNeg + (i + 1).toNatClampNeg ≤ j ∧ j + 1 < 6 * h.toNatClampNeg + (cC r h.toNatClampNeg).toNatClampNeg then upd (cD r) (6 * h.toNatClampNeg + i.toNatClampNeg) (cD r (6 * h.toNatClampNeg + i.toNatClampNeg + 1)) (j + 1) else upd (cD r) (6 * h.toNatClampNeg + i.toNatClampNeg) (cD r (6 * h.toNatClampNeg + i.toNatClampNeg + 1)) j) = _
        rw [a1.2]
        by_cases e : j = 6 * h.toNatClampNeg + i.toNatClampNeg
        · rw [if_neg (by omega), if_pos (by omega), e, pk_us]
        · by_cases f : 6 * h.toNatClampNeg + (i.toNatClampNeg + 1) ≤ j ∧ j + 1 < 6 * h.toNatClampNeg + (cC r h.toNatClampNeg).toNatClampNeg
          · rw [if_pos f, if_pos (by omega), pk_un (by omega)]
          · rw [if_neg f, if_neg (by omega), pk_un e]
/-- a core taken out of a holder's row -/
theorem rem_eq {co : CoT} {h k : Int32} (ok : coOK co) (hh : iv 0 4 h) (h0 : 0 ≤ k.toInt) (h1 : k.toInt < (cC co h.toNatClampNeg).toInt) :
    cC (m_X0_remove co h k) = upd (cC co) h.toNatClampNeg (cC co h.toNatClampNeg - 1) ∧
    (∀ j : Nat, cK (m_X0_remove co h k) j = if 6 * h.toNatClampNeg + k.toNatClampNeg ≤ j ∧ j + 1 < 6 * h.toNatClampNeg + (cC co h.toNatClampNeg).toNatClampNeg then cK co (j + 1) else cK co j) ∧
    (∀ j : Nat, cD (m_X0_remove co h k) j = if 6 * h.toNatClampNeg + k.toNatClampNeg ≤ j ∧ j + 1 < 6 * h.toNatClampNeg + (cC co h.toNatClampNeg).toNatClampNeg then cD co (j + 1) else cD co j) := by
  have hH := iv_tnc (n := 5) hh (by decide)
  have c6 := ok _ hH
  unfold m_X0_remove
  rw [if_neg]
  · exact rem_L hh 100 co k h0 h1 c6.2 (by omega)
  · unfold m_X0_owes
    rw [if_neg (hold_nz hh), if_neg (by rw [i32_lt, i32_0]; omega), if_neg (by rw [i32_le]; omega), if_neg (by rw [i32_le, ii6]; omega)]
    decide
theorem owes_nz {co : CoT} {h k : Int32} (ok : coOK co) (hh : iv 0 4 h) (h0 : 0 ≤ k.toInt) (h1 : k.toInt < (cC co h.toNatClampNeg).toInt) : ¬ m_X0_owes co h k = 0 := by
  have hH := iv_tnc (n := 5) hh (by decide)
  have c6 := ok _ hH
  unfold m_X0_owes
  rw [if_neg (hold_nz hh), if_neg (by rw [i32_lt, i32_0]; omega), if_neg (by rw [i32_le]; omega), if_neg (by rw [i32_le, ii6]; omega)]
  decide
/-- the row: a core taken out, behind it two numbers forward, the last two 0 -/
theorem del_L {r : Nat → Int32} {x1 o p : Int32} (hv : iv 0 15 x1) (eo : m_X9_of r x1 1 = o) (ho : iv 0 4 o) (ep : (m_X9_priceOf r x1) + (m_X9_late r (r (((m_X9_coresAt o) + (2 : Int32)) + ((2 : Int32) * (m_X9_oldest r o (m_X9_of r x1 (0 : Int32))))).toNatClampNeg) (0 : Int32)) = p) : ∀ (nF : Nat) (rr : Nat → Int32) (c i : Int32), rr (318 + 13 * o.toNatClampNeg) = c → iv 0 5 c → 318 + 13 * (o.toNatClampNeg : Int) + 1 ≤ i.toInt → i.toInt ≤ 318 + 13 * (o.toNatClampNeg : Int) + 1 + 2 * c.toInt → (318 + 13 * (o.toNatClampNeg : Int) + 1 + 2 * c.toInt - i.toInt).toNat < nF →
    ∃ S : Nat → Int32, (∀ q : Nat, S q = if i.toNatClampNeg ≤ q ∧ q < 318 + 13 * o.toNatClampNeg + 1 + 2 * c.toNatClampNeg then rr (q + 2) else rr q) ∧ m_X9_deliverOn_L65 nF r x1 rr i = (p, m_X9_pays (m_X9_give (upd (upd S (318 + 13 * o.toNatClampNeg + 1 + 2 * c.toNatClampNeg) 0) (318 + 13 * o.toNatClampNeg + 2 + 2 * c.toNatClampNeg) 0) x1 4) o 4 p) := by
  have hO := iv_tnc (n := 5) ho (by decide)
  intro nF
  induction nF with
  | zero => intro rr c i e hc h1 h2 hf; omega
  | succ nF ih =>
    intro rr c i e hc h1 h2 hf
    have gc := iv_int hc
    have go := iv_int ho
    have oh := ho.2
    have ch := hc.2
    have gi : i.toInt = i.toNatClampNeg := by rw [tnc_d]; omega
    have eK : (m_X9_coresAt o).toInt = 318 + 13 * o.toInt := by
      have := ix_cores ho
      have := iv_coresAt ho
      have := this.1
      rename_i a b
      rw [tnc_d] at a
      omega
    have eE : ((m_X9_coresAt o + 1) + 2 * c).toInt = 318 + 13 * o.toInt + 1 + 2 * c.toInt := by
      have := ix_slot ho iv_p1 hc
      rw [kn1, tnc_d] at this
      have g := dl_hj (iv_coresAt ho) hc
      rw [eK] at g
      omega
    rw [m_X9_deliverOn_L65, eo, ix_cores ho, e, ep]
    by_cases cc : (m_X9_coresAt o + 1) + 2 * c ≤ i
    · rw [if_pos cc]
      rw [i32_le, eE] at cc
      refine ⟨rr, fun q => by rw [if_neg (by omega)], ?_⟩
      rw [ix_slot ho iv_p1 hc, kn1, pk_un (j := 318 + 13 * o.toNatClampNeg) (by omega), e, ix_slot ho iv_p2 hc, kn2]
    · rw [if_neg cc]
      rw [i32_le, eE] at cc
      have i1 : (i + 1).toInt = i.toInt + 1 := by rw [i32_add (by rw [i32_1]; omega) (by rw [i32_1]; omega), i32_1]
      have i2 : (i + 2).toInt = i.toInt + 2 := by rw [i32_add (by rw [ii2]; omega) (by rw [ii2]; omega), ii2]
      have n1 : (i + 1).toNatClampNeg = i.toNatClampNeg + 1 := by rw [tnc_d, tnc_d, i1]; omega
      have n2 : (i + 2).toNatClampNeg = i.toNatClampNeg + 2 := by rw [tnc_d, tnc_d, i2]; omega
      obtain ⟨S, hS, hL⟩ := ih (upd rr i.toNatClampNeg (rr (i + 2).toNatClampNeg)) c (i + 1) (by rw [pk_un (by omega)]; exact e) hc (by omega) (by omega) (by omega)
      refine ⟨S, fun q => ?_, hL⟩
      rw [hS q, n1, n2]
      by_cases f : q = i.toNatClampNeg
      · rw [if_neg (by omega), if_pos (by omega), f, pk_us]
      · by_cases g : i.toNatClampNeg + 1 ≤ q ∧ q < 318 + 13 * o.toNatClampNeg + 1 + 2 * c.toNatClampNeg
        · rw [if_pos g, if_pos (by omega), pk_un (by omega)]
        · rw [if_neg g, if_neg (by omega), pk_un f]
/-- class beside row, a core taken out -/
theorem RS_out {z : StT} {r S : Nat → Int32} {o n c : Int32} (h : RS z r) (hr : rOK r) (ho : iv 0 4 o) (ec : cC (sC z) o.toNatClampNeg = c) (hn0 : 0 ≤ n.toInt) (hn1 : n.toInt < c.toInt)
    (hS : ∀ q : Nat, S q = if 318 + 13 * o.toNatClampNeg + 1 + 2 * n.toNatClampNeg ≤ q ∧ q < 318 + 13 * o.toNatClampNeg + 1 + 2 * (c - 1).toNatClampNeg then upd r (318 + 13 * o.toNatClampNeg) (c - 1) (q + 2) else upd r (318 + 13 * o.toNatClampNeg) (c - 1) q) :
    RS (sC' z (m_X0_remove (sC z) o n)) (upd (upd S (318 + 13 * o.toNatClampNeg + 1 + 2 * (c - 1).toNatClampNeg) 0) (318 + 13 * o.toNatClampNeg + 2 + 2 * (c - 1).toNatClampNeg) 0) := by
  have ok := h.ok hr
  have hO := iv_tnc (n := 5) ho (by decide)
  have c6 := ok.2 _ hO
  rw [ec] at c6
  have e1 : (c - 1).toInt = c.toInt - 1 := by rw [i32_sub (by rw [i32_1]; omega) (by rw [i32_1]; omega), i32_1]
  have n1 : (c - 1).toNatClampNeg + 1 = c.toNatClampNeg := by rw [tnc_d (c - 1), tnc_d c, e1]; omega
  have nn : n.toNatClampNeg < c.toNatClampNeg := by rw [tnc_d n, tnc_d c]; omega
  have c7 : c.toNatClampNeg ≤ 6 := by rw [tnc_d c]; omega
  obtain ⟨r1, r2, r3⟩ := rem_eq (k := n) ok.2 ho hn0 (by rw [ec]; exact hn1)
  rw [ec] at r1 r2 r3
  have far : ∀ j : Nat, (j < 318 + 13 * o.toNatClampNeg ∨ 318 + 13 * o.toNatClampNeg + 13 ≤ j) → upd (upd S (318 + 13 * o.toNatClampNeg + 1 + 2 * (c - 1).toNatClampNeg) 0) (318 + 13 * o.toNatClampNeg + 2 + 2 * (c - 1).toNatClampNeg) 0 j = r j := fun j hj => by
    rw [pk_un (by omega), pk_un (by omega), hS, if_neg (by omega), pk_un (by omega)]
  refine ⟨rsU.fr (z := sU z) h.1 (fun j hj => far j (by omega)) ok.1, ?_, rsD.fr (z := sD z) h.2.2.1 (fun j hj => far j (by omega)), rsA.fr (z := sA z) h.2.2.2.1 (fun j hj => far j (by omega)), rsS.fr (z := sS z) h.2.2.2.2.1 (fun j hj => far j (by omega)), rsN.fr (z := z) h.2.2.2.2.2 (fun j hj => far j (by omega))⟩
  intro x hx
  obtain ⟨b1, b2⟩ := h.2.1 x hx
  have x6 := ok.2 x hx
  show _ = cC (m_X0_remove (sC z) o n) x ∧ ∀ j : Nat, j < (cC (m_X0_remove (sC z) o n) x).toNatClampNeg → _ = cK (m_X0_remove (sC z) o n) (6 * x + j) ∧ _ = cD (m_X0_remove (sC z) o n) (6 * x + j)
  rw [r1]
  by_cases e : x = o.toNatClampNeg
  · subst e
    rw [pk_us]
    refine ⟨?_, fun j hj => ?_⟩
    · rw [pk_un (by omega), pk_un (by omega), hS, if_neg (by omega), pk_us]
    · rw [r2, r3, pk_un (by omega), pk_un (by omega), pk_un (by omega), pk_un (by omega), hS, hS]
      rw [ec] at b2
      by_cases g : n.toNatClampNeg ≤ j
      · rw [if_pos (by omega), if_pos (by omega), if_pos (by omega), if_pos (by omega), pk_un (by omega), pk_un (by omega)]
        have := b2 (j + 1) (by omega)
        exact this
      · rw [if_neg (by omega), if_neg (by omega), if_neg (by omega), if_neg (by omega), pk_un (by omega), pk_un (by omega)]
        exact b2 j (by omega)
  · rw [pk_un e]
    refine ⟨by rw [far _ (by omega)]; exact b1, fun j hj => ?_⟩
    have j6 : j < 6 := by rw [tnc_d] at hj; omega
    rw [far _ (by omega), far _ (by omega), r2, r3, if_neg (by omega), if_neg (by omega)]
    exact b2 j hj
theorem BD_out {T : Int} {r S : Nat → Int32} {o n c : Int32} (hB : BD T r) (ho : iv 0 4 o) (hc : iv 1 6 c) (nn : n.toNatClampNeg < c.toNatClampNeg)
    (hS : ∀ q : Nat, S q = if 318 + 13 * o.toNatClampNeg + 1 + 2 * n.toNatClampNeg ≤ q ∧ q < 318 + 13 * o.toNatClampNeg + 1 + 2 * (c - 1).toNatClampNeg then upd r (318 + 13 * o.toNatClampNeg) (c - 1) (q + 2) else upd r (318 + 13 * o.toNatClampNeg) (c - 1) q) :
    BD T (upd (upd S (318 + 13 * o.toNatClampNeg + 1 + 2 * (c - 1).toNatClampNeg) 0) (318 + 13 * o.toNatClampNeg + 2 + 2 * (c - 1).toNatClampNeg) 0) := by
  have hO := iv_tnc (n := 5) ho (by decide)
  have h1 := hc.1
  have h2 := hc.2
  have e1 : (c - 1).toInt = c.toInt - 1 := by rw [i32_sub (by rw [i32_1]; omega) (by rw [i32_1]; omega), i32_1]
  have n1 : (c - 1).toNatClampNeg + 1 = c.toNatClampNeg := by rw [tnc_d (c - 1), tnc_d c, e1]; omega
  have c7 : c.toNatClampNeg ≤ 6 := by rw [tnc_d c]; omega
  have far : ∀ j : Nat, j < 318 → upd (upd S (318 + 13 * o.toNatClampNeg + 1 + 2 * (c - 1).toNatClampNeg) 0) (318 + 13 * o.toNatClampNeg + 2 + 2 * (c - 1).toNatClampNeg) 0 j = r j := fun j hj => by
    rw [pk_un (by omega), pk_un (by omega), hS, if_neg (by omega), pk_un (by omega)]
  obtain ⟨b1, b2, b3, b4, b5, b6⟩ := hB
  refine ⟨?_, fun i hi => ?_, fun x hx q hq => ?_, ?_, fun u hu => ?_, fun x hx j hj => ?_⟩
  · rw [far _ (by omega)]; exact b1
  · rw [far _ (by omega)]; exact b2 i hi
  · rw [far _ (by omega)]; exact b3 x hx q hq
  · rw [far _ (by omega), far _ (by omega), far _ (by omega)]; exact b4
  · rw [far _ (by omega)]; exact b5 u hu
  · by_cases e : 318 + 13 * x + 2 + 2 * j = 318 + 13 * o.toNatClampNeg + 2 + 2 * (c - 1).toNatClampNeg
    · rw [e, pk_us]; decide
    · rw [pk_un e, pk_un (by omega), hS]
      by_cases g : 318 + 13 * o.toNatClampNeg + 1 + 2 * n.toNatClampNeg ≤ 318 + 13 * x + 2 + 2 * j ∧ 318 + 13 * x + 2 + 2 * j < 318 + 13 * o.toNatClampNeg + 1 + 2 * (c - 1).toNatClampNeg
      · rw [if_pos g, pk_un (by omega)]
        have := b6 x hx (j + 1) (by omega)
        exact this
      · rw [if_neg g, pk_un (by omega)]
        exact b6 x hx j hj
theorem rok_out {r S : Nat → Int32} {o n c : Int32} (hr : rOK r) (ho : iv 0 4 o) (hc : iv 1 6 c) (nn : n.toNatClampNeg < c.toNatClampNeg)
    (hS : ∀ q : Nat, S q = if 318 + 13 * o.toNatClampNeg + 1 + 2 * n.toNatClampNeg ≤ q ∧ q < 318 + 13 * o.toNatClampNeg + 1 + 2 * (c - 1).toNatClampNeg then upd r (318 + 13 * o.toNatClampNeg) (c - 1) (q + 2) else upd r (318 + 13 * o.toNatClampNeg) (c - 1) q) :
    rOK (upd (upd S (318 + 13 * o.toNatClampNeg + 1 + 2 * (c - 1).toNatClampNeg) 0) (318 + 13 * o.toNatClampNeg + 2 + 2 * (c - 1).toNatClampNeg) 0) := by
  have hO := iv_tnc (n := 5) ho (by decide)
  have h1 := hc.1
  have h2 := hc.2
  have e1 : (c - 1).toInt = c.toInt - 1 := by rw [i32_sub (by rw [i32_1]; omega) (by rw [i32_1]; omega), i32_1]
  have n1 : (c - 1).toNatClampNeg + 1 = c.toNatClampNeg := by rw [tnc_d (c - 1), tnc_d c, e1]; omega
  have c7 : c.toNatClampNeg ≤ 6 := by rw [tnc_d c]; omega
  have far : ∀ j : Nat, (j < 318 + 13 * o.toNatClampNeg ∨ 318 + 13 * o.toNatClampNeg + 13 ≤ j) → upd (upd S (318 + 13 * o.toNatClampNeg + 1 + 2 * (c - 1).toNatClampNeg) 0) (318 + 13 * o.toNatClampNeg + 2 + 2 * (c - 1).toNatClampNeg) 0 j = r j := fun j hj => by
    rw [pk_un (by omega), pk_un (by omega), hS, if_neg (by omega), pk_un (by omega)]
  obtain ⟨b1, b2, b3⟩ := hr
  refine ⟨by rw [far _ (by omega)]; exact b1, fun u hu => ?_, fun x hx => ?_⟩
  · rw [far _ (by omega), far _ (by omega), far _ (by omega), far _ (by omega)]; exact b2 u hu
  · by_cases e : x = o.toNatClampNeg
    · rw [e, pk_un (by omega), pk_un (by omega), hS, if_neg (by omega), pk_us]
      exact ⟨by omega, by omega⟩
    · rw [far _ (by omega)]; exact b3 x hx
theorem a_deliver {z : StT} {r : Nat → Int32} {T : Int} {x1 : Int32} (h : RS z r) (hr : rOK r) (hB : BD T r) (hT : T ≤ 10000000) : Act T z (m_X9_whyNotDeliver r x1) (m_X5_tryDeliver z x1) (m_X9_deliverOn r x1) es2 := by
  have ok := h.ok hr
  unfold m_X9_whyNotDeliver m_X5_tryDeliver
  rw [unit_eq h.1.1 ok.1]
  by_cases c1 : m_X7_has (sU z) x1 = 0
  · rw [if_pos c1, if_pos c1]; exact Or.inr ⟨_, e21, rfl, rfl⟩
  rw [if_neg c1, if_neg c1, core_eq h.1 ok.1 c1]
  by_cases c2 : m_X7_isFreeCore (sU z) x1 = 0
  · rw [if_pos c2, if_pos c2]; exact Or.inr ⟨_, e22, rfl, rfl⟩
  have g := has_in ok.1 c1
  have iu := u_iv h hr c1
  have ho := iu.2.1
  have hO := iv_tnc (n := 5) ho (by decide)
  rw [if_neg c2, if_neg c2, ru_o h.1 ok.1 c1, ru_k h.1 ok.1 c1, old_eq h hr ho iu.1.1]
  by_cases c3 : m_X0_oldest (sC z) (uO (sU z) x1.toNatClampNeg) (uK (sU z) x1.toNatClampNeg) = -1
  · rw [if_pos c3, if_pos c3]; exact Or.inr ⟨_, e22, rfl, rfl⟩
  rw [if_neg c3, if_neg c3]
  have c3' : ¬ m_X9_oldest r (uO (sU z) x1.toNatClampNeg) (uK (sU z) x1.toNatClampNeg) = -1 := by rw [old_eq h hr ho iu.1.1]; exact c3
  have ol := oldest_lt hr ho c3'
  rw [old_eq h hr ho iu.1.1, ix_cores ho, (h.2.1 _ hO).1] at ol
  obtain ⟨oc, b2⟩ := h.2.1 _ hO
  generalize hn : m_X0_oldest (sC z) (uO (sU z) x1.toNatClampNeg) (uK (sU z) x1.toNatClampNeg) = n at *
  generalize hc : cC (sC z) (uO (sU z) x1.toNatClampNeg).toNatClampNeg = c at *
  have c6 := ok.2 _ hO
  rw [hc] at c6
  have ivc : iv 1 6 c := ⟨by omega, c6.2⟩
  have ivn : iv 0 5 n := ⟨ol.1, by omega⟩
  have e1 : (c - 1).toInt = c.toInt - 1 := by rw [i32_sub (by rw [i32_1]; omega) (by rw [i32_1]; omega), i32_1]
  have nn : n.toNatClampNeg < c.toNatClampNeg := by rw [tnc_d n, tnc_d c]; omega
  have ivc1 : iv 0 5 (c - 1) := ⟨by omega, by omega⟩
  have hdue := (b2 n.toNatClampNeg nn).2
  have ed : m_X0_dueOf (sC z) (uO (sU z) x1.toNatClampNeg) n = r (318 + 13 * (uO (sU z) x1.toNatClampNeg).toNatClampNeg + 2 + 2 * n.toNatClampNeg) := by
    unfold m_X0_dueOf
    rw [if_neg (owes_nz ok.2 ho ol.1 (by rw [hc]; exact ol.2)), (core_ix ho ivn).1, hdue]
  have dnn : 0 ≤ (r (318 + 13 * (uO (sU z) x1.toNatClampNeg).toNatClampNeg + 2 + 2 * n.toNatClampNeg)).toInt := hB.2.2.2.2.2 _ hO _ (iv_tnc ivn (by decide))
  rw [ed]
  have hp : (m_X9_priceOf r x1) + (m_X9_late r (r (((m_X9_coresAt (uO (sU z) x1.toNatClampNeg)) + (2 : Int32)) + ((2 : Int32) * (m_X9_oldest r (uO (sU z) x1.toNatClampNeg) (m_X9_of r x1 (0 : Int32))))).toNatClampNeg) (0 : Int32)) = m_X5_priceForCore z x1 + m_X5_lateFees z (r (318 + 13 * (uO (sU z) x1.toNatClampNeg).toNatClampNeg + 2 + 2 * n.toNatClampNeg)) (sT z) := by
    rw [ru_k h.1 ok.1 c1, old_eq h hr ho iu.1.1, hn, price_eq h hr c1, late_eq h, ix_slot ho iv_p2 ivn, kn2, Int32.add_zero]
  have n1 : (c - 1).toNatClampNeg + 1 = c.toNatClampNeg := by rw [tnc_d (c - 1), tnc_d c, e1]; omega
  have c7 : c.toNatClampNeg ≤ 6 := by rw [tnc_d c]; omega
  have gn := iv_int ivn
  have gO := iv_int ho
  have oh := ho.2
  have eI : ((m_X9_coresAt (uO (sU z) x1.toNatClampNeg) + 1) + 2 * n).toNatClampNeg = 318 + 13 * (uO (sU z) x1.toNatClampNeg).toNatClampNeg + 1 + 2 * n.toNatClampNeg := by
    have := ix_slot ho iv_p1 ivn
    rw [kn1] at this
    exact this
  have gI : ((m_X9_coresAt (uO (sU z) x1.toNatClampNeg) + 1) + 2 * n).toInt = 318 + 13 * ((uO (sU z) x1.toNatClampNeg).toNatClampNeg : Int) + 1 + 2 * n.toInt := by
    have a1 := dl_hj (iv_coresAt ho) ivn
    have a2 := (iv_coresAt ho).1
    have a3 := eI
    rw [tnc_d ((m_X9_coresAt (uO (sU z) x1.toNatClampNeg) + 1) + 2 * n)] at a3
    omega
  obtain ⟨S, hS, hL⟩ := del_L g.1 (ru_o h.1 ok.1 c1) ho hp 1000 (upd r (318 + 13 * (uO (sU z) x1.toNatClampNeg).toNatClampNeg) (c - 1)) (c - 1) ((m_X9_coresAt (uO (sU z) x1.toNatClampNeg) + 1) + 2 * n) pk_us ivc1 (by omega) (by omega) (by omega)
  rw [eI] at hS
  have ef : m_X9_deliverOn r x1 = m_X9_deliverOn_L65 1000 r x1 (upd r (318 + 13 * (uO (sU z) x1.toNatClampNeg).toNatClampNeg) (c - 1)) ((m_X9_coresAt (uO (sU z) x1.toNatClampNeg) + 1) + 2 * n) := by
    unfold m_X9_deliverOn
    rw [ru_o h.1 ok.1 c1, ru_k h.1 ok.1 c1, old_eq h hr ho iu.1.1, hn, ix_cores ho, oc]
  rw [ef, hL]
  have R1 := RS_out h hr ho hc ol.1 ol.2 hS
  have k1 := rok_out (n := n) hr ho ivc nn hS
  have B1 := BD_out (n := n) hB ho ivc nn hS
  have R2 := RS_give (x := x1) (v := 4) R1 k1 c1
  have k2 := rok_give k1 g.1 iv_p4
  have B2 := BD_give (v := 4) B1 g.1
  have R3 := RS_pays (v := m_X5_priceForCore z x1 + m_X5_lateFees z (r (318 + 13 * (uO (sU z) x1.toNatClampNeg).toNatClampNeg + 2 + 2 * n.toNatClampNeg)) (sT z)) R2 k2 ho iv_p4
  have B3 := BD_pays (v := m_X5_priceForCore z x1 + m_X5_lateFees z (r (318 + 13 * (uO (sU z) x1.toNatClampNeg).toNatClampNeg + 2 + 2 * n.toNatClampNeg)) (sT z)) B2 ho iv_p4
  have p1 := price_iv h hr hB c1
  have p2 := late_nn (days := 0) h hB hT dnn (iv_wide iv_0 (by decide))
  rw [Int32.add_zero] at p2
  have p3 := iv_add (l := 0) (h := 1000003996) p1 p2 (by decide)
  exact Or.inl ⟨rfl, rfl, p3.1, R3, BD_up B3 (by omega)⟩
