/-! p35: a pool all of whose states keep it; each call leaves it so -/
def GS (T : Int) (z : SpT) : Prop := SG T (pN z) ∧ (∀ j : Nat, j < hcN (pH z) → SG T (hv (pH z) j)) ∧ (¬ pV z 0 = 0 → SG T (pA z)) ∧ (¬ pV z 1 = 0 → SG T (pB z))
theorem GS.up {T T2 : Int} {z : SpT} (h : GS T z) (e : T ≤ T2) : GS T2 z := ⟨h.1.up e, fun j hj => (h.2.1 j hj).up e, fun q => (h.2.2.1 q).up e, fun q => (h.2.2.2 q).up e⟩
theorem VIS.gs {T : Int} {z z2 : SpT} (v : VIS z z2) (h : GS T z) : GS T z2 := by
  obtain ⟨-, ⟨a3, a4, a5, a6⟩, ⟨a7, a8⟩, a9⟩ := v
  refine ⟨by rw [a3]; exact h.1, fun j hj => ?_, by rw [a6, a4]; exact h.2.2.1, by rw [a6, a5]; exact h.2.2.2⟩
  have hj2 : j < hcN (pH z) := by
    have hj : j < (hC (pH z2)).toNatClampNeg := hj
    rw [a8] at hj
    exact hj
  rw [a9 j hj2]
  exact h.2.1 j hj2
theorem gs_fin {T T2 : Int} {z : SpT} {t : Int32 × StT} (h : GS T z) (e : T ≤ T2) (ok : hiOK (pH z)) (o : Out t (pN z)) (g : SG T2 t.2) : GS T2 (fnA z t).2.2 := by
  have h2 := h.up e
  rcases o with o | o
  · rw [fin_ok o]
    refine ⟨g, ?_, h2.2.2⟩
    show ∀ j : Nat, j < hcN (hiKeep (hiPrep (pH z) (pN z))) → SG T2 (hv (hiKeep (hiPrep (pH z) (pN z))) j)
    intro j hj
    rcases hv_keep (st := pN z) ok with ⟨k1, k2, k3, k4⟩ | ⟨k1, k2, k3, k4⟩
    · rw [k2] at hj
      by_cases c : j < hcN (pH z)
      · rw [k3 j c]; exact h2.2.1 j c
      · rw [show j = hcN (pH z) by omega, k4]; exact h2.1
    · rw [k2] at hj
      by_cases c : j < 13
      · rw [k3 j c]; exact h2.2.1 (j + 1) (by omega)
      · rw [show j = 13 by omega, k4]; exact h2.1
  · exact (vis_fin ok (Or.inr o) (fin_no o.1 o.2).1).gs h2
theorem gs_undo {T : Int} {z : SpT} (h : GS T z) (ok : hiOK (pH z)) : GS T (m_X8_undo z).2.2 := by
  unfold m_X8_undo
  by_cases c : hC (pH z) = 0
  · rw [if_pos c]; exact h
  · rw [if_neg c]
    have b1 := ok.2.1
    have c1 : hcN (pH z) = (hC (pH z)).toInt.toNat := rfl
    have c0 : 0 < hcN (pH z) := by
      have : ¬ (hC (pH z)).toInt = 0 := fun e => c (i32_eq (by rw [e, i32_0]))
      omega
    obtain ⟨k1, k2, k3⟩ := hv_back (st := pN z) ok c0
    refine ⟨?_, ?_, h.2.2⟩
    · show SG T (hiBack (pH z) (pN z)).1
      rw [k1]
      exact h.2.1 _ (by omega)
    · show ∀ j : Nat, j < hcN (hiBack (pH z) (pN z)).2 → SG T (hv (hiBack (pH z) (pN z)).2 j)
      intro j hj
      rw [k3 j]
      exact h.2.1 j (by omega)
theorem gs_forget {T : Int} {z : SpT} {st : StT} {w : Nat → Int32} {tx : TxT} (g : SG T st) (hA9 : ¬ w 0 = 0 → SG T (pA z)) (hB9 : ¬ w 1 = 0 → SG T (pB z)) : GS T (pT' (pV' (pH' (pN' z st) (hiForget (pH z))) w) tx) := by
  refine ⟨g, fun j hj => ?_, hA9, hB9⟩
  have hj : j < (0 : Int32).toNatClampNeg := hj
  rw [kn0] at hj
  omega
theorem gs_save {T : Int} {z : SpT} {x1 : Int32} (h : GS T z) : GS T (m_X8_save z x1).2.2 := by
  unfold m_X8_save
  by_cases c1 : m_X8_isSlot x1 = 0
  · rw [if_pos c1]; exact h
  rw [if_neg c1]
  have s := hs_isSlot c1
  by_cases c2 : x1 = 0
  · rw [if_pos c2]
    subst c2
    refine ⟨h.1, h.2.1, fun _ => h.1, fun q => h.2.2.2 (fun e => q ?_)⟩
    show upd (pV z) (0 : Int32).toNatClampNeg 1 1 = 0
    rw [kn0]
    exact e
  · rw [if_neg c2]
    have e1 : x1.toNatClampNeg = 1 := by
      have : ¬ x1.toInt = 0 := fun e => c2 (i32_eq (by rw [e, i32_0]))
      rw [tnc_d]; omega
    refine ⟨h.1, h.2.1, fun q => h.2.2.1 (fun e => q ?_), fun _ => h.1⟩
    show upd (pV z) x1.toNatClampNeg 1 0 = 0
    rw [e1]
    exact e
theorem gs_restore {T : Int} {z : SpT} {x1 : Int32} (h : GS T z) : GS T (m_X8_restore z x1).2.2 := by
  unfold m_X8_restore
  by_cases c1 : m_X8_isSlot x1 = 0
  · rw [if_pos c1]; exact h
  rw [if_neg c1]
  have s := hs_isSlot c1
  by_cases c0 : pV z x1.toNatClampNeg = 0
  · rw [if_pos c0]; exact h
  rw [if_neg c0]
  by_cases c2 : x1 = 0
  · rw [if_pos c2]
    subst c2
    exact gs_forget (w := pV z) (tx := pT z) (h.2.2.1 c0) h.2.2.1 h.2.2.2
  · rw [if_neg c2]
    have e1 : x1.toNatClampNeg = 1 := by
      have : ¬ x1.toInt = 0 := fun e => c2 (i32_eq (by rw [e, i32_0]))
      rw [tnc_d]; omega
    rw [e1] at c0
    exact gs_forget (w := pV z) (tx := pT z) (h.2.2.2 c0) h.2.2.1 h.2.2.2
theorem anew_U : ∀ (nF : Nat) (r : StT) (k : Int32), sU (m_X5_startAnew_L24 nF r k) = sU r ∧ sC (m_X5_startAnew_L24 nF r k) = sC r := by
  intro nF
  induction nF with
  | zero => intro r k; exact ⟨rfl, rfl⟩
  | succ nF ih =>
    intro r k
    rw [m_X5_startAnew_L24]
    split
    · exact ⟨rfl, rfl⟩
    · exact ih _ _
theorem sg_anew {T : Int} {st : StT} (h : SG T st) : SG 0 (m_X5_startAnew st) := by
  have g := RS_anew st (fun _ => 0)
  obtain ⟨-, g2, g3, g4, -, -, -, -, g8⟩ := g
  have eA : ∀ i : Nat, i < 5 → sA (m_X5_startAnew st) i = 0 := fun i hi => by rw [← g4 i hi, bg_0 _ _ (by omega) (by omega)]
  have eD : ∀ i : Nat, i < 225 → sD (m_X5_startAnew st) i = 0 := fun i hi => by rw [← g3 i hi, bg_0 _ _ (by omega) (by omega)]
  have eC : cC (sC (m_X5_startAnew st)) 4 = 0 := by rw [← (g2 4 (by omega)).1, bg_0 _ _ (by omega) (by omega)]
  have eO : sO (m_X5_startAnew st) = 0 := by rw [← g8, bg_0 _ _ (by omega) (by omega)]
  refine ⟨?_, eC, ⟨fun i hi => ?_, fun a b q l1 l2 l3 => Or.inl (eD _ (by omega))⟩, fun u hu => ?_⟩
  · rw [eO, eA 0 (by omega), eA 1 (by omega), eA 2 (by omega), eA 3 (by omega), eA 4 (by omega)]
    decide
  · rw [eD i hi]
    decide
  · have e : sU (m_X5_startAnew st) = uN' (sU st) 0 := (anew_U 100 _ _).1
    rw [e]
    exact h.2.2.2 u hu
theorem sg_dtc {T : Int} {z : SpT} {x1 : Int32} (h : SG T (pN z)) (ok : stOK (pN z)) (hT : T ≤ 10000000) : SG (T + 1) (pN (m_X8_doTextCommand z x1).2) ∧ stOK (pN (m_X8_doTextCommand z x1).2) := by
  unfold m_X8_doTextCommand
  by_cases c1 : x1 = 100
  · rw [if_pos c1]; exact ⟨sg_days h, ok_tryDays ok⟩
  rw [if_neg c1]
  by_cases c2 : x1 = 108
  · rw [if_pos c2]; exact ⟨sg_lend h, ok_tryLend ok⟩
  rw [if_neg c2]
  by_cases c3 : x1 = 110
  · rw [if_pos c3]; exact ⟨sg_come h, ok_tryCome ok⟩
  rw [if_neg c3]
  by_cases c4 : x1 = 114
  · rw [if_pos c4]; exact ⟨sg_bring h ok.1, ok_tryBring ok⟩
  rw [if_neg c4]
  by_cases c5 : x1 = 116
  · rw [if_pos c5]; exact ⟨sg_take h hT, ok_tryTake ok⟩
  rw [if_neg c5]
  by_cases c6 : x1 = 120
  · rw [if_pos c6]; exact ⟨sg_exchange h ok.1, ok_tryExchange ok⟩
  rw [if_neg c6]
  exact ⟨h.up (by omega), ok⟩
theorem dtc_rest {z : SpT} {x1 : Int32} : pA (m_X8_doTextCommand z x1).2 = pA z ∧ pB (m_X8_doTextCommand z x1).2 = pB z ∧ pV (m_X8_doTextCommand z x1).2 = pV z ∧ pH (m_X8_doTextCommand z x1).2 = pH z := by
  unfold m_X8_doTextCommand
  repeat' split
  all_goals exact ⟨rfl, rfl, rfl, rfl⟩
theorem sgd_L : ∀ (nF : Nat) (r : SpT) (lo pa : Int32) (T : Int), SG T (pN r) → stOK (pN r) → T + nF ≤ 10000000 → SG (T + nF) (pN (m_X8_doText_L4 nF r lo pa).2) ∧ pA (m_X8_doText_L4 nF r lo pa).2 = pA r ∧ pB (m_X8_doText_L4 nF r lo pa).2 = pB r ∧ pV (m_X8_doText_L4 nF r lo pa).2 = pV r ∧ pH (m_X8_doText_L4 nF r lo pa).2 = pH r := by
  intro nF
  induction nF with
  | zero => intro r lo pa T h ok hT; exact ⟨h.up (by omega), rfl, rfl, rfl, rfl⟩
  | succ nF ih =>
    intro r lo pa T h ok hT
    have hc : ((nF + 1 : Nat) : Int) = (nF : Int) + 1 := by omega
    rw [hc] at hT ⊢
    rw [m_X8_doText_L4]
    by_cases c1 : tL (pT r) ≤ pa
    · rw [if_pos c1]; exact ⟨h.up (by omega), rfl, rfl, rfl, rfl⟩
    rw [if_neg c1]
    by_cases c2 : pa < (m_X6_readCommand (pT r) pa).1
    case neg => rw [if_neg c2]; exact ⟨h.up (by omega), rfl, rfl, rfl, rfl⟩
    rw [if_pos c2]
    have d := sg_dtc (z := pT' r (m_X6_readCommand (pT r) pa).2) (x1 := tC (m_X6_readCommand (pT r) pa).2) h ok (by omega)
    have e := dtc_rest (z := pT' r (m_X6_readCommand (pT r) pa).2) (x1 := tC (m_X6_readCommand (pT r) pa).2)
    generalize m_X8_doTextCommand (pT' r (m_X6_readCommand (pT r) pa).2) (tC (m_X6_readCommand (pT r) pa).2) = D9 at *
    have e1 : pA D9.2 = pA r := e.1
    have e2 : pB D9.2 = pB r := e.2.1
    have e3 : pV D9.2 = pV r := e.2.2.1
    have e4 : pH D9.2 = pH r := e.2.2.2
    split
    · obtain ⟨k1, k2, k3, k4, k5⟩ := ih D9.2 lo (m_X6_readCommand (pT r) pa).1 (T + 1) d.1 d.2 (by omega)
      exact ⟨k1.up (by omega), k2.trans e1, k3.trans e2, k4.trans e3, k5.trans e4⟩
    · obtain ⟨k1, k2, k3, k4, k5⟩ := ih D9.2 (lo + 1) (m_X6_readCommand (pT r) pa).1 (T + 1) d.1 d.2 (by omega)
      exact ⟨k1.up (by omega), k2.trans e1, k3.trans e2, k4.trans e3, k5.trans e4⟩
theorem gs_load {T : Int} {z : SpT} (h : GS T z) (hT : 1000 ≤ T) : GS T (m_X8_load z).2.2 := by
  unfold m_X8_load
  by_cases c : (m_X6_firstError (pT z)).1 = -1
  case neg => rw [if_neg c]; exact h
  rw [if_pos c]
  have k := sgd_L 1000 (pV' (pH' (pN' (pT' z (m_X6_firstError (pT z)).2) (m_X5_startAnew (pN z))) (hiForget (pH z))) (upd (upd (pV z) (0 : Int32).toNatClampNeg (0 : Int32)) (1 : Int32).toNatClampNeg (0 : Int32))) 0 1 0 (sg_anew h.1) (ok_anew _) (by decide)
  have e : ∀ r, m_X8_doText_L4 1000 r 0 1 = m_X8_doText r := fun r => rfl
  rw [e] at k
  generalize m_X8_doText (pV' (pH' (pN' (pT' z (m_X6_firstError (pT z)).2) (m_X5_startAnew (pN z))) (hiForget (pH z))) (upd (upd (pV z) (0 : Int32).toNatClampNeg (0 : Int32)) (1 : Int32).toNatClampNeg (0 : Int32))) = D9 at *
  obtain ⟨k1, k2, k3, k4, k5⟩ := k
  refine ⟨k1.up (Int.le_trans (by decide) hT), fun j hj => ?_, fun q => absurd ?_ q, fun q => absurd ?_ q⟩
  · have hj : j < (hC (pH D9.2)).toNatClampNeg := hj
    rw [k5] at hj
    have hj : j < (0 : Int32).toNatClampNeg := hj
    rw [kn0] at hj
    omega
  · show pV D9.2 0 = 0
    rw [k4]; rfl
  · show pV D9.2 1 = 0
    rw [k4]; rfl
