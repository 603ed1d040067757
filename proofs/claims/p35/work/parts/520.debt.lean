theorem RS.low {z : StT} {f r : Nat → Int32} (h : RS z r) (hr : rOK r) (e : ∀ j : Nat, j < 383 → f j = r j) : RS z f := by
  have ok := h.ok hr
  exact ⟨rsU.fr (z := sU z) h.1 (fun j hj => e j (by omega)) ok.1, rsC.fr (z := sC z) h.2.1 (fun j hj => e j (by omega)) ok.2, rsD.fr (z := sD z) h.2.2.1 (fun j hj => e j (by omega)), rsA.fr (z := sA z) h.2.2.2.1 (fun j hj => e j (by omega)), rsS.fr (z := sS z) h.2.2.2.2.1 (fun j hj => e j (by omega)), rsN.fr (z := z) h.2.2.2.2.2 (fun j hj => e j (by omega))⟩
theorem BD.low {T : Int} {f r : Nat → Int32} (h : BD T r) (e : ∀ j : Nat, j < 383 → f j = r j) : BD T f :=
  BD.fr h (fun j hj => e j (by omega)) (fun u hu => by rw [e _ (by omega)]; exact h.2.2.2.2.1 u hu)
theorem RS.cp {z : StT} {f r : Nat → Int32} (h : RS z r) (hr : rOK r) : RS z (m_X9_copyState r f 0 0) := h.low hr (fun _ hj => cp_low hj)
theorem BD.cp {T : Int} {f r : Nat → Int32} (h : BD T r) : BD T (m_X9_copyState r f 0 0) := h.low (fun _ hj => cp_low hj)
theorem ring1 (a b c : Int32) : a - b - c = a - (b + c) := by grind
theorem ring2 (a b c : Int32) : a - b + c = a - (b - c) := by grind
/-- the class's state with some units brought back, beside the state itself -/
def Bro (st s2 : StT) (u : Int32) (f : Int32 → Int32) : Prop := sD s2 = sD st ∧ sS s2 = sS st ∧ sT s2 = sT st ∧ uN (sU s2) = uN (sU st) ∧ uO (sU s2) = uO (sU st) ∧ (∀ v : Nat, u.toNatClampNeg ≤ v → uP (sU s2) v = uP (sU st) v ∧ uD (sU s2) v = uD (sU st) v) ∧ ∀ x : Int32, iv 0 4 x → sA s2 x.toNatClampNeg = sA st x.toNatClampNeg - f x
theorem has_same {a b : UnT} (e : uN a = uN b) (u : Int32) : m_X7_has a u = m_X7_has b u := by
  unfold m_X7_has
  rw [e]
theorem free_same {a b : UnT} {u : Int32} (e : uN a = uN b) (eo : uO a = uO b) (ep : uP a u.toNatClampNeg = uP b u.toNatClampNeg) : m_X7_isFree a u = m_X7_isFree b u := by
  unfold m_X7_isFree
  rw [has_same e, eo, ep]
theorem fee_same {st s2 : StT} {u : Int32} {f : Int32 → Int32} (h : Bro st s2 u f) : m_X5_feesFor s2 u 0 = m_X5_feesFor st u 0 := by
  obtain ⟨h1, h2, h3, h4, h5, h6, h7⟩ := h
  obtain ⟨p, d⟩ := h6 _ (Nat.le_refl _)
  unfold m_X5_feesFor m_X5_lateFees
  rw [has_same h4, free_same h4 h5 p, d, h2, h3]
/-- one unit more brought back -/
theorem bro_step {st s2 : StT} {u : Int32} {f : Int32 → Int32} (h : Bro st s2 u f) (hs : ¬ m_X7_has (sU st) u = 0) (nf : m_X7_isFree (sU st) u = 0) (u0 : 0 ≤ u.toInt) (us : (u + 1).toInt = u.toInt + 1) (hp : iv 0 4 (uP (sU st) u.toNatClampNeg)) (ho : iv 0 4 (uO (sU st) u.toNatClampNeg)) :
    Bro st (m_X5_tryBring s2 u).2 (u + 1) (fun x => if uP (sU st) u.toNatClampNeg = x then (if uO (sU st) u.toNatClampNeg = x then (f x + m_X5_feesFor st u 0) - m_X5_feesFor st u 0 else f x + m_X5_feesFor st u 0) else if uO (sU st) u.toNatClampNeg = x then f x - m_X5_feesFor st u 0 else f x) := by
  have fs := fee_same h
  obtain ⟨h1, h2, h3, h4, h5, h6, h7⟩ := h
  obtain ⟨p, d⟩ := h6 _ (Nat.le_refl _)
  have hs2 : ¬ m_X7_has (sU s2) u = 0 := by rw [has_same h4]; exact hs
  have nf2 : m_X7_isFree (sU s2) u = 0 := by rw [free_same h4 h5 p]; exact nf
  have ne : ¬ uP (sU st) u.toNatClampNeg = uO (sU st) u.toNatClampNeg := fun e => by
    unfold m_X7_isFree at nf
    rw [if_neg hs, if_pos e] at nf
    exact absurd nf (by decide)
  have pp : m_X5_pay s2 (uP (sU s2) u.toNatClampNeg) (uO (sU s2) u.toNatClampNeg) (m_X5_feesFor s2 u 0) = sA' s2 (upd (upd (sA s2) (uP (sU st) u.toNatClampNeg).toNatClampNeg (sA s2 (uP (sU st) u.toNatClampNeg).toNatClampNeg - m_X5_feesFor st u 0)) (uO (sU st) u.toNatClampNeg).toNatClampNeg (upd (sA s2) (uP (sU st) u.toNatClampNeg).toNatClampNeg (sA s2 (uP (sU st) u.toNatClampNeg).toNatClampNeg - m_X5_feesFor st u 0) (uO (sU st) u.toNatClampNeg).toNatClampNeg + m_X5_feesFor st u 0)) := by
    rw [p, h5, fs]
    unfold m_X5_pay
    rw [if_neg (hold_nz hp), if_neg (hold_nz ho)]
  have et : (m_X5_tryBring s2 u).2 = sU' (sA' s2 (upd (upd (sA s2) (uP (sU st) u.toNatClampNeg).toNatClampNeg (sA s2 (uP (sU st) u.toNatClampNeg).toNatClampNeg - m_X5_feesFor st u 0)) (uO (sU st) u.toNatClampNeg).toNatClampNeg (upd (sA s2) (uP (sU st) u.toNatClampNeg).toNatClampNeg (sA s2 (uP (sU st) u.toNatClampNeg).toNatClampNeg - m_X5_feesFor st u 0) (uO (sU st) u.toNatClampNeg).toNatClampNeg + m_X5_feesFor st u 0))) (uD' (uP' (uO' (sU s2) (upd (uO (sU s2)) u.toNatClampNeg (uO (sU s2) u.toNatClampNeg))) (upd (uP (sU s2)) u.toNatClampNeg (uO (sU s2) u.toNatClampNeg))) (upd (uD (sU s2)) u.toNatClampNeg (-1))) := by
    unfold m_X5_tryBring
    rw [if_neg hs2, if_pos nf2, pp]
    unfold m_X7_giveTo
    rw [if_neg]
    · rfl
    · exact hs2
  rw [et]
  have hP := iv_tnc (n := 5) hp (by decide)
  have hO := iv_tnc (n := 5) ho (by decide)
  refine ⟨h1, h2, h3, h4, ?_, fun v hv => ?_, fun x hx => ?_⟩
  · show upd (uO (sU s2)) u.toNatClampNeg (uO (sU s2) u.toNatClampNeg) = uO (sU st)
    rw [upd_id rfl]; exact h5
  · have nv : ¬ v = u.toNatClampNeg := by
      rw [tnc_d, us] at hv
      rw [tnc_d]; omega
    have lv : u.toNatClampNeg ≤ v := by
      rw [tnc_d, us] at hv
      rw [tnc_d]; omega
    show upd (uP (sU s2)) u.toNatClampNeg _ v = _ ∧ upd (uD (sU s2)) u.toNatClampNeg _ v = _
    rw [pk_un nv, pk_un nv]
    exact h6 v lv
  · show upd (upd (sA s2) (uP (sU st) u.toNatClampNeg).toNatClampNeg (sA s2 (uP (sU st) u.toNatClampNeg).toNatClampNeg - m_X5_feesFor st u 0)) (uO (sU st) u.toNatClampNeg).toNatClampNeg (upd (sA s2) (uP (sU st) u.toNatClampNeg).toNatClampNeg (sA s2 (uP (sU st) u.toNatClampNeg).toNatClampNeg - m_X5_feesFor st u 0) (uO (sU st) u.toNatClampNeg).toNatClampNeg + m_X5_feesFor st u 0) x.toNatClampNeg = sA st x.toNatClampNeg - (if uP (sU st) u.toNatClampNeg = x then (if uO (sU st) u.toNatClampNeg = x then (f x + m_X5_feesFor st u 0) - m_X5_feesFor st u 0 else f x + m_X5_feesFor st u 0) else if uO (sU st) u.toNatClampNeg = x then f x - m_X5_feesFor st u 0 else f x)
    have q := h7 x hx
    have inj : ∀ y : Int32, iv 0 4 y → (x.toNatClampNeg = y.toNatClampNeg ↔ y = x) := fun y hy => ⟨fun e => i32_eq (by rw [iv_int hy, iv_int hx, e]), fun e => by rw [e]⟩
    by_cases a : uP (sU st) u.toNatClampNeg = x
    · have b : ¬ uO (sU st) u.toNatClampNeg = x := fun e => ne (a.trans e.symm)
      rw [if_pos a, if_neg b, pk_un (fun e => b ((inj _ ho).mp e)), a, pk_us, q, ring1]
    · rw [if_neg a]
      by_cases b : uO (sU st) u.toNatClampNeg = x
      · rw [if_pos b, b, pk_us, pk_un (fun e => a ((inj _ hp).mp e)), q, ring2]
      · rw [if_neg b, pk_un (fun e => b ((inj _ ho).mp e)), pk_un (fun e => a ((inj _ hp).mp e)), q]
theorem bro_free {st s2 : StT} {u : Int32} {f : Int32 → Int32} (h : Bro st s2 u f) (hs : ¬ m_X7_has (sU st) u = 0) (fr : ¬ m_X7_isFree (sU st) u = 0) (us : (u + 1).toInt = u.toInt + 1) :
    Bro st s2 (u + 1) (fun x => if uP (sU st) u.toNatClampNeg = x then (if uO (sU st) u.toNatClampNeg = x then (f x + m_X5_feesFor st u 0) - m_X5_feesFor st u 0 else f x + m_X5_feesFor st u 0) else if uO (sU st) u.toNatClampNeg = x then f x - m_X5_feesFor st u 0 else f x) := by
  have e0 : m_X5_feesFor st u 0 = 0 := by
    unfold m_X5_feesFor
    rw [if_neg hs, if_neg fr]
  obtain ⟨h1, h2, h3, h4, h5, h6, h7⟩ := h
  refine ⟨h1, h2, h3, h4, h5, fun v hv => h6 v (by rw [tnc_d, us] at hv; rw [tnc_d]; omega), fun x hx => ?_⟩
  show _ = sA st x.toNatClampNeg - (if uP (sU st) u.toNatClampNeg = x then (if uO (sU st) u.toNatClampNeg = x then (f x + m_X5_feesFor st u 0) - m_X5_feesFor st u 0 else f x + m_X5_feesFor st u 0) else if uO (sU st) u.toNatClampNeg = x then f x - m_X5_feesFor st u 0 else f x)
  rw [e0, Int32.add_zero, Int32.sub_zero]
  by_cases a : uP (sU st) u.toNatClampNeg = x
  · by_cases b : uO (sU st) u.toNatClampNeg = x
    · rw [if_pos a, if_pos b]; exact h7 x hx
    · rw [if_pos a, if_neg b]; exact h7 x hx
  · by_cases b : uO (sU st) u.toNatClampNeg = x
    · rw [if_neg a, if_pos b]; exact h7 x hx
    · rw [if_neg a, if_neg b]; exact h7 x hx
/-- the reference brings all back, one by one -/
theorem debt_L {st : StT} (ok : stOK st) (hu : ∀ u : Int32, ¬ m_X7_has (sU st) u = 0 → iv 0 4 (uP (sU st) u.toNatClampNeg) ∧ iv 0 4 (uO (sU st) u.toNatClampNeg)) (mo : MoT) : ∀ (nF : Nat) (s2 : StT) (W : Nat → Int32) (T : Int) (u : Int32) (f : Int32 → Int32), RS s2 W → rOK W → BD T W → T + 99 * ((uN (sU st)).toInt - u.toInt) ≤ 10000000 → Bro st s2 u f → 0 ≤ u.toInt → u.toInt ≤ (uN (sU st)).toInt → ((uN (sU st)).toInt - u.toInt).toNat < nF →
    ∃ (s3 : StT) (W3 : Nat → Int32), m_X9_inDebt_L20 nF (mW' mo W) u = m_X9_inDebt_L60 100 (mW' mo W3) 0 0 ∧ RS s3 W3 ∧ rOK W3 ∧ sD s3 = sD st ∧ sS s3 = sS st ∧ ∀ x : Int32, iv 0 4 x → sA s3 x.toNatClampNeg = sA st x.toNatClampNeg - m_X5_feesToPay_L5 nF st x 0 (f x) u := by
  intro nF
  induction nF with
  | zero => intro s2 W T u f hS hr hB hT hb h0 h1 hf; omega
  | succ nF ih =>
    intro s2 W T u f hS hr hB hT hb h0 h1 hf
    have e1 : W 1 = uN (sU st) := hS.1.1.trans hb.2.2.2.1
    by_cases c : uN (sU st) ≤ u
    · refine ⟨s2, W, ?_, hS, hr, hb.1, hb.2.1, fun x hx => ?_⟩
      · rw [m_X9_inDebt_L20]
        show (if W (1 : Int32).toNatClampNeg ≤ u then _ else _) = _
        rw [kn1, e1, if_pos c]
      · rw [m_X5_feesToPay_L5, if_pos c]
        exact hb.2.2.2.2.2.2 x hx
    · have s := lp_s c
      have c2 := c
      rw [i32_le] at c2
      have hs := has_of h0 c
      have hs2 : ¬ m_X7_has (sU s2) u = 0 := by rw [has_same hb.2.2.2.1]; exact hs
      have ef : m_X9_isFree W u = m_X7_isFree (sU st) u := by
        rw [free_eq hS.1 (hS.ok hr).1 hs2]
        exact free_same hb.2.2.2.1 hb.2.2.2.2.1 (hb.2.2.2.2.2.1 _ (Nat.le_refl _)).1
      have ec : ∀ x : Int32, m_X5_feesToPay_L5 (nF + 1) st x 0 (f x) u = m_X5_feesToPay_L5 nF st x 0 (if uP (sU st) u.toNatClampNeg = x then (if uO (sU st) u.toNatClampNeg = x then (f x + m_X5_feesFor st u 0) - m_X5_feesFor st u 0 else f x + m_X5_feesFor st u 0) else if uO (sU st) u.toNatClampNeg = x then f x - m_X5_feesFor st u 0 else f x) (u + 1) := fun x => by
        rw [m_X5_feesToPay_L5, if_neg c]
        by_cases a : uP (sU st) u.toNatClampNeg = x
        · by_cases b : uO (sU st) u.toNatClampNeg = x
          · rw [if_pos a, if_pos b, if_pos a, if_pos b]
          · rw [if_pos a, if_neg b, if_pos a, if_neg b]
        · by_cases b : uO (sU st) u.toNatClampNeg = x
          · rw [if_neg a, if_pos b, if_neg a, if_pos b]
          · rw [if_neg a, if_neg b, if_neg a, if_neg b]
      have em : m_X9_inDebt_L20 (nF + 1) (mW' mo W) u = if m_X7_isFree (sU st) u = 0 then m_X9_inDebt_L20 nF (mW' mo (m_X9_bringOn W u).2) (u + 1) else m_X9_inDebt_L20 nF (mW' mo W) (u + 1) := by
        rw [m_X9_inDebt_L20]
        show (if W (1 : Int32).toNatClampNeg ≤ u then _ else if m_X9_isFree W u = 0 then m_X9_inDebt_L20 nF (mW' (mW' mo W) (m_X9_bringOn W u).2) (u + 1) else _) = _
        rw [kn1, e1, if_neg c, ef]
        rfl
      by_cases nf : m_X7_isFree (sU st) u = 0
      · have A := a_bring (x1 := u) hS hr hB (by omega)
        have w0 : m_X9_whyNotBring W u = 0 := by
          unfold m_X9_whyNotBring
          rw [unit_eq hS.1.1 (hS.ok hr).1, if_neg hs2, ef, if_pos nf]
        rcases A with ⟨-, -, -, A4, A5⟩ | ⟨e, A1, A2, -⟩
        · obtain ⟨p, o⟩ := hu u hs
          obtain ⟨s3, W3, k1, k2, k3, k4, k5, k6⟩ := ih _ _ _ (u + 1) _ A4 (rok_bring hr (has_in (hS.ok hr).1 hs2).1) A5 (by omega) (bro_step hb hs nf h0 s p o) (by omega) (by omega) (by omega)
          exact ⟨s3, W3, by rw [em, if_pos nf]; exact k1, k2, k3, k4, k5, fun x hx => by rw [ec]; exact k6 x hx⟩
        · rw [w0] at A2
          exact absurd A2.symm (es2_neg e A1).2
      · obtain ⟨s3, W3, k1, k2, k3, k4, k5, k6⟩ := ih _ _ _ (u + 1) _ hS hr hB (by omega) (bro_free hb hs nf s) (by omega) (by omega) (by omega)
        exact ⟨s3, W3, by rw [em, if_neg nf]; exact k1, k2, k3, k4, k5, fun x hx => by rw [ec]; exact k6 x hx⟩
/-- the bits, holder by holder -/
theorem debt_bits {z : SpT} {s3 : StT} {W3 : Nat → Int32} {mo : MoT} (hS : RS s3 W3) (hD : sD s3 = sD (pN z)) (hSS : sS s3 = sS (pN z)) (hA : ∀ x : Int32, iv 0 4 x → sA s3 x.toNatClampNeg = sA (pN z) x.toNatClampNeg - m_X5_feesToPay (pN z) x 0) : ∀ (nF : Nat) (b x : Int32), 0 ≤ x.toInt → (5 - x.toInt).toNat < nF → m_X9_inDebt_L60 nF (mW' mo W3) b x = ((m_X8_inDebt_L4 nF z b x).1, mW' mo W3) ∧ (m_X8_inDebt_L4 nF z b x).2 = z := by
  intro nF
  induction nF with
  | zero => intro b x h0 hf; omega
  | succ nF ih =>
    intro b x h0 hf
    by_cases c : (5 : Int32) ≤ x
    · rw [m_X9_inDebt_L60, m_X8_inDebt_L4, if_pos c, if_pos c]
      exact ⟨rfl, rfl⟩
    · have s := lp_s c
      have c2 := c
      rw [i32_le, ii5] at c2
      have hx : iv 0 4 x := ⟨h0, by omega⟩
      have i1 := ih b (x + 1) (by omega) (by omega)
      have i2 := ih (b ||| ((1 : Int32) <<< (x &&& (31 : Int32)))) (x + 1) (by omega) (by omega)
      have f88 : ((88 : Int32) + x).toNatClampNeg = 88 + x.toNatClampNeg := by
        have h2 := hx.2
        have e : (88 : Int32).toInt = 88 := by decide
        rw [tnc_d, tnc_d, i32_add (by omega) (by omega), e]
        omega
      have ea : W3 ((88 : Int32) + x).toNatClampNeg - (m_X9_partsOwed W3 x (-1) - m_X9_partsOwed W3 (-1) x) * W3 (4 : Int32).toNatClampNeg = m_X5_accountWhenAllIsSettled (pN z) x := by
        unfold m_X5_accountWhenAllIsSettled
        rw [if_neg (hold_nz hx), f88, hS.2.2.2.1 _ (iv_tnc hx (by decide)), hA x hx, parts_by hS hx, parts_to hS hx, hD, kn4, show W3 4 = _ from hS.2.2.2.2.1 2 (by omega), hSS, kn2, Int32.mul_comm]
      rw [m_X9_inDebt_L60, m_X8_inDebt_L4]
      show (if (5 : Int32) ≤ x then (b, mW' mo W3) else if 0 ≤ W3 ((88 : Int32) + x).toNatClampNeg - (m_X9_partsOwed W3 x (-1) - m_X9_partsOwed W3 (-1) x) * W3 (4 : Int32).toNatClampNeg then _ else _) = _ ∧ _
      rw [if_neg c, if_neg c, ea]
      by_cases q : 0 ≤ m_X5_accountWhenAllIsSettled (pN z) x
      · rw [if_pos q, if_pos q, Int32.or_zero]
        exact i1
      · rw [if_neg q, if_neg q]
        exact i2
theorem inDebt_eq {z : SpT} {mo : MoT} {T : Int} (h : RS (pN z) (mN mo)) (hr : rOK (mN mo)) (hB : BD T (mN mo)) (hT : T ≤ 1000000) : (m_X9_inDebt mo).1 = (m_X8_inDebt z).1 ∧ (m_X8_inDebt z).2 = z ∧ ∃ W, (m_X9_inDebt mo).2 = mW' (mR' mo 0) W := by
  have ok := h.ok hr
  have u16 := ok.1.2
  have u00 := ok.1.1
  have i0 := i32_0
  have b0 : Bro (pN z) (pN z) 0 (fun _ => 0) := ⟨rfl, rfl, rfl, rfl, rfl, fun v hv => ⟨rfl, rfl⟩, fun x hx => by rw [Int32.sub_zero]⟩
  obtain ⟨s3, W3, k1, k2, k3, k4, k5, k6⟩ := debt_L ok (fun u hs => ⟨(u_iv h hr hs).2.2.1, (u_iv h hr hs).2.1⟩) (mR' mo 0) 100 (pN z) (m_X9_copyState (mN mo) (mW mo) 0 0) T 0 (fun _ => 0) (h.cp hr) (cp_rok hr) hB.cp (by omega) b0 (by omega) (by omega) (by omega)
  obtain ⟨q1, q2⟩ := debt_bits (z := z) (mo := mR' mo 0) k2 k4 k5 k6 100 0 0 (by decide) (by decide)
  have e : m_X9_inDebt mo = ((m_X8_inDebt_L4 100 z 0 0).1, mW' (mR' mo 0) W3) := k1.trans q1
  rw [e]
  exact ⟨rfl, q2, W3, rfl⟩
