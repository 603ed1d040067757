/-! the pool beside the reference -/
def PR (T : Int) (z : SpT) (mo : MoT) : Prop := (tS (pT z) = mT mo ∧ tL (pT z) = mZ mo ∧ iv 0 120 (mZ mo)) ∧ (RS (pN z) (mN mo) ∧ rOK (mN mo) ∧ BD T (mN mo)) ∧ HR T (pH z) mo ∧ ((pV z 0 = mI mo 0 ∧ pV z 1 = mI mo 1) ∧ (¬ mI mo 0 = 0 → RS (pA z) (sg (mK mo) 0) ∧ rOK (sg (mK mo) 0) ∧ BD T (sg (mK mo) 0)) ∧ (¬ mI mo 1 = 0 → RS (pB z) (sg (mK mo) 383) ∧ rOK (sg (mK mo) 383) ∧ BD T (sg (mK mo) 383)))
theorem PR.up {T T2 : Int} {z : SpT} {mo : MoT} (H : PR T z mo) (e : T ≤ T2) : PR T2 z mo := ⟨H.1, ⟨H.2.1.1, H.2.1.2.1, BD_up H.2.1.2.2 e⟩, H.2.2.1.up e, H.2.2.2.1, fun q => ⟨(H.2.2.2.2.1 q).1, (H.2.2.2.2.1 q).2.1, BD_up (H.2.2.2.2.1 q).2.2 e⟩, fun q => ⟨(H.2.2.2.2.2 q).1, (H.2.2.2.2.2 q).2.1, BD_up (H.2.2.2.2.2 q).2.2 e⟩⟩
theorem PR.r {T : Int} {z : SpT} {mo : MoT} (H : PR T z mo) (v : Int32) : PR (T + 99) z (mR' mo v) := H.up (by omega)
theorem PR.rw {T : Int} {z : SpT} {mo : MoT} {st : StT} (H : PR T z mo) (v : Int32) (W : Nat → Int32) : PR (T + 99) (pR' z st) (mW' (mR' mo v) W) := H.up (by omega)
/-- a call, class beside reference: the answer alike, or refused alike (es: which exception is which number) -/
def AG (T : Int) (c : Nat × Int32 × SpT) (m : Int32 × MoT) (es : List (Nat × Int32)) : Prop := PR (T + 99) c.2.2 m.2 ∧ ((c.1 = 0 ∧ mR m.2 = 0 ∧ c.2.1 = m.1) ∨ ∃ e ∈ es, c.1 = e.1 ∧ mR m.2 = e.2)
theorem ws_or {x v : Int32} (c : ¬ whySet x v = 0) : whySet x v = 1 := by
  unfold whySet at c ⊢
  by_cases q : m_X8_isSetting x = 0 ∨ v < 0 ∨ ¬ v ≤ fxM x.toNatClampNeg
  · rw [if_pos q]
  · rw [if_neg q] at c; exact absurd rfl c
theorem set_rok {r : Nat → Int32} {x v : Int32} (hr : rOK r) (e : whySet x v = 0) : rOK (upd r ((2 : Int32) + x).toNatClampNeg v) := by
  have c1 : ¬ m_X8_isSetting x = 0 := fun q => by rw [ws_1 (Or.inl q)] at e; exact absurd e (by decide)
  have s3 := hs_isSetting c1
  have ix : ((2 : Int32) + x).toNatClampNeg = 2 + x.toNatClampNeg := by
    rw [tnc_d, tnc_d, i32_add (by rw [ii2]; omega) (by rw [ii2]; omega), ii2]
    omega
  have x3 : x.toNatClampNeg < 3 := by rw [tnc_d]; omega
  rw [ix]
  exact rok_free hr (by omega)
section AGS
variable {T : Int} {z : SpT} {mo : MoT} {es : List (Nat × Int32)}
theorem ag_ok {v w : Int32} (H : PR T z mo) (e : v = w) : AG T (0, v, z) (w, mR' mo 0) es := ⟨H.r 0, Or.inl ⟨rfl, rfl, e⟩⟩
theorem ag_no {v w : Int32} {k : Nat} {n : Int32} (H : PR T z mo) (h : (k, n) ∈ es) : AG T (k, v, z) (w, mR' mo n) es := ⟨H.r n, Or.inr ⟨_, h, rfl, rfl⟩⟩
def ea : List (Nat × Int32) := [(1, 1), (2, 2), (3, 3)]
def eb : List (Nat × Int32) := [(1, 1), (3, 2)]
def ec : List (Nat × Int32) := [(2, 1)]
def ed : List (Nat × Int32) := [(1, 1), (2, 2)]
def ee : List (Nat × Int32) := [(1, 1)]
def ef : List (Nat × Int32) := [(3, 1)]
def eg : List (Nat × Int32) := [(2, 1), (3, 2)]
theorem c21 : ((2, 1) : Nat × Int32) ∈ ec := List.mem_of_getElem? (i := 0) rfl
theorem d11 : ((1, 1) : Nat × Int32) ∈ ed := List.mem_of_getElem? (i := 0) rfl
theorem d22 : ((2, 2) : Nat × Int32) ∈ ed := List.mem_of_getElem? (i := 1) rfl
theorem ee1 : ((1, 1) : Nat × Int32) ∈ ee := List.mem_of_getElem? (i := 0) rfl
theorem ef1 : ((3, 1) : Nat × Int32) ∈ ef := List.mem_of_getElem? (i := 0) rfl
theorem eg1 : ((2, 1) : Nat × Int32) ∈ eg := List.mem_of_getElem? (i := 0) rfl
theorem eg2 : ((3, 2) : Nat × Int32) ∈ eg := List.mem_of_getElem? (i := 1) rfl
theorem eb1 : ((1, 1) : Nat × Int32) ∈ eb := List.mem_of_getElem? (i := 0) rfl
theorem eb2 : ((3, 2) : Nat × Int32) ∈ eb := List.mem_of_getElem? (i := 1) rfl
/-- an action of the pool -/
theorem ag_act {w : Int32} {t : Int32 × StT} {On : (Nat → Int32) → Int32 × (Nat → Int32)} {e5 : List (Int32 × Int32)} (H : PR T z mo) (A : Act T (pN z) w t (On (mN mo)) e5) (hr : w = 0 → rOK (On (mN mo)).2) (he : ∀ e ∈ e5, 0 < e.1 ∧ ∃ q ∈ es, q.2 = e.1 ∧ ((e.2 = -1 ∧ q.1 = 1) ∨ (e.2 = -2 ∧ q.1 = 2) ∨ (e.2 = -3 ∧ q.1 = 3))) :
    AG T (m_X8_finishAction (pN' (pH' z (hiPrep (pH z) (pN z))) t.2) t.1) (if (m_X9_refused mo w).1 = 0 then ((On (mN (m_X9_remember (mR' mo w)))).1, mN' (m_X9_remember (mR' mo w)) (On (mN (m_X9_remember (mR' mo w)))).2) else (0, mR' mo w)) es := by
  unfold m_X8_finishAction m_X9_refused
  rcases A with ⟨a1, a2, a3, a4, a5⟩ | ⟨e, a1, a2, a3⟩
  · obtain ⟨D, A, k1, k2⟩ := H.2.2.1.keep (st := pN z) H.2.1.1 H.2.1.2.1 H.2.1.2.2 w
    have eN : mN (m_X9_remember (mR' mo w)) = mN mo := by rw [k1]; rfl
    have n3 : ¬ t.1 = -3 := fun q => by rw [← a2, q] at a3; exact absurd a3 (by decide)
    have n2 : ¬ t.1 = -2 := fun q => by rw [← a2, q] at a3; exact absurd a3 (by decide)
    have n1 : ¬ t.1 = -1 := fun q => by rw [← a2, q] at a3; exact absurd a3 (by decide)
    rw [if_neg n3, if_neg n2, if_neg n1, if_pos (show (if w ≤ 0 then (0 : Int32) else 1) = 0 by rw [a1]; rfl), eN, k1]
    refine ⟨⟨H.1, ⟨a4, hr a1, a5⟩, ?_, H.2.2.2.1, fun q => ?_, fun q => ?_⟩, Or.inl ⟨rfl, a1, a2⟩⟩
    · exact (k2 _ rfl rfl).up (by omega)
    · exact ⟨(H.2.2.2.2.1 q).1, (H.2.2.2.2.1 q).2.1, BD_up (H.2.2.2.2.1 q).2.2 (by omega)⟩
    · exact ⟨(H.2.2.2.2.2 q).1, (H.2.2.2.2.2 q).2.1, BD_up (H.2.2.2.2.2 q).2.2 (by omega)⟩
  · obtain ⟨p, q, hq, g1, g2⟩ := he e a1
    have nz9 : ¬ (if w ≤ 0 then (0 : Int32) else 1) = 0 := by
      rw [a2, if_neg (by rw [i32_le, i32_0]; rw [i32_lt, i32_0] at p; omega)]
      decide
    rw [if_neg nz9, a3]
    have HP : PR (T + 99) (pN' (pH' z (hiPrep (pH z) (pN z))) (pN z)) (mR' mo w) := by
      have h := H.up (T2 := T + 99) (by omega)
      exact ⟨h.1, h.2.1, h.2.2.1.prep, h.2.2.2⟩
    rcases g2 with ⟨x1, x2⟩ | ⟨x1, x2⟩ | ⟨x1, x2⟩
    · show AG T (if e.2 = -3 then _ else if e.2 = -2 then _ else if e.2 = -1 then _ else _) _ _
      rw [x1, if_neg (show ¬ (-1 : Int32) = -3 by decide), if_neg (show ¬ (-1 : Int32) = -2 by decide), if_pos rfl]
      exact ⟨HP, Or.inr ⟨q, hq, x2.symm, by rw [g1, ← a2]; rfl⟩⟩
    · show AG T (if e.2 = -3 then _ else if e.2 = -2 then _ else if e.2 = -1 then _ else _) _ _
      rw [x1, if_neg (show ¬ (-2 : Int32) = -3 by decide), if_pos rfl]
      exact ⟨HP, Or.inr ⟨q, hq, x2.symm, by rw [g1, ← a2]; rfl⟩⟩
    · show AG T (if e.2 = -3 then _ else if e.2 = -2 then _ else if e.2 = -1 then _ else _) _ _
      rw [x1, if_pos rfl]
      exact ⟨HP, Or.inr ⟨q, hq, x2.symm, by rw [g1, ← a2]; rfl⟩⟩
variable {x1 x2 x3 x4 : Int32}
theorem ag_come (H : PR T z mo) (hT : T ≤ 10000000) : AG T (m_X8_come z x1 x2 x3) (m_X9_come mo x1 x2 x3) ea := by
  unfold m_X8_come m_X9_come
  exact ag_act (On := fun r => m_X9_comeOn r x1 x2 x3) H (a_come H.2.1.1 H.2.1.2.1 H.2.1.2.2) (fun e => rok_come H.2.1.2.1 e) (by decide)
theorem ag_lend (H : PR T z mo) (hT : T ≤ 10000000) : AG T (m_X8_lend z x1 x2 x3) (m_X9_lend mo x1 x2 x3) ea := by
  unfold m_X8_lend m_X9_lend
  exact ag_act (On := fun r => m_X9_lendOn r x1 x2 x3) H (a_lend H.2.1.1 H.2.1.2.1 H.2.1.2.2 hT) (fun e => rok_lend H.2.1.2.1 e) (by decide)
theorem ag_bring (H : PR T z mo) (hT : T ≤ 10000000) : AG T (m_X8_bring z x1) (m_X9_bring mo x1) eb := by
  unfold m_X8_bring m_X9_bring
  exact ag_act (On := fun r => m_X9_bringOn r x1) H (a_bring H.2.1.1 H.2.1.2.1 H.2.1.2.2 hT) (fun e => rok_bring H.2.1.2.1 (wn_Bring_0 H.2.1.2.1 e)) (by decide)
theorem ag_exchange (H : PR T z mo) (hT : T ≤ 10000000) : AG T (m_X8_exchange z x1 x2) (m_X9_exchange mo x1 x2) eb := by
  unfold m_X8_exchange m_X9_exchange
  exact ag_act (On := fun r => m_X9_exchangeOn r x1 x2) H (a_exchange H.2.1.1 H.2.1.2.1 H.2.1.2.2) (fun e => rok_exchange H.2.1.2.1 e) (by decide)
theorem ag_advance (H : PR T z mo) (hT : T ≤ 10000000) : AG T (m_X8_advance z x1 x2 x3) (m_X9_advance mo x1 x2 x3) ea := by
  unfold m_X8_advance m_X9_advance
  exact ag_act (On := fun r => m_X9_advanceOn r x1 x2 x3) H (a_advance H.2.1.1 H.2.1.2.1 H.2.1.2.2 hT) (fun e => rok_advance H.2.1.2.1 e) (by decide)
theorem ag_deliver (H : PR T z mo) (hT : T ≤ 10000000) : AG T (m_X8_deliver z x1) (m_X9_deliver mo x1) eb := by
  unfold m_X8_deliver m_X9_deliver
  exact ag_act (On := fun r => m_X9_deliverOn r x1) H (a_deliver H.2.1.1 H.2.1.2.1 H.2.1.2.2 hT) (fun e => rok_deliver H.2.1.2.1 e) (by decide)
theorem ag_take (H : PR T z mo) (hT : T ≤ 10000000) : AG T (m_X8_take z x1 x2 x3) (m_X9_take mo x1 x2 x3) eb := by
  unfold m_X8_take m_X9_take
  exact ag_act (On := fun r => m_X9_takeOn r x1 x2 x3) H (a_take H.2.1.1 H.2.1.2.1 H.2.1.2.2 hT) (fun e => rok_take H.2.1.2.1 e) (by decide)
theorem ag_settle (H : PR T z mo) (hT : T ≤ 10000000) : AG T (m_X8_settle z x1 x2 x3 x4) (m_X9_settle mo x1 x2 x3 x4) eb := by
  unfold m_X8_settle m_X9_settle
  exact ag_act (On := fun r => m_X9_settleOn r x1 x2 x3 x4) H (a_settle H.2.1.1 H.2.1.2.1 H.2.1.2.2 hT) (fun e => rok_settle H.2.1.2.1 e) (by decide)
theorem ag_buy (H : PR T z mo) (hT : T ≤ 10000000) : AG T (m_X8_buy z x1 x2) (m_X9_buy mo x1 x2) eb := by
  unfold m_X8_buy m_X9_buy
  exact ag_act (On := fun r => m_X9_buyOn r x1 x2) H (a_buy H.2.1.1 H.2.1.2.1 H.2.1.2.2) (fun e => rok_buy H.2.1.2.1 e) (by decide)
theorem ag_days (H : PR T z mo) (hT : T ≤ 10000000) : AG T (m_X8_days z x1) (m_X9_days mo x1) ec := by
  have g := ag_act (es := ec) (On := fun r => m_X9_daysOn r x1) H (a_days (x1 := x1) H.2.1.1 H.2.1.2.1 H.2.1.2.2 hT) (fun _ => rok_days H.2.1.2.1) (by decide)
  have e : m_X9_days mo x1 = if (m_X9_refused mo (if m_X9_in x1.toInt64 1 99 = 0 then 1 else 0)).1 = 0 then ((m_X9_daysOn (mN (m_X9_remember (mR' mo (if m_X9_in x1.toInt64 1 99 = 0 then 1 else 0)))) x1).1, mN' (m_X9_remember (mR' mo (if m_X9_in x1.toInt64 1 99 = 0 then 1 else 0))) (m_X9_daysOn (mN (m_X9_remember (mR' mo (if m_X9_in x1.toInt64 1 99 = 0 then 1 else 0)))) x1).2) else (0, mR' mo (if m_X9_in x1.toInt64 1 99 = 0 then 1 else 0)) := by
    unfold m_X9_days m_X9_refused
    by_cases c : m_X9_in x1.toInt64 1 99 = 0
    · rw [if_pos c, if_pos c]
      rw [if_neg]
      show ¬ (if (1 : Int32) ≤ 0 then (0 : Int32) else 1) = 0
      decide
    · rw [if_neg c, if_neg c]
      rw [if_pos]
      show (if (0 : Int32) ≤ 0 then (0 : Int32) else 1) = 0
      decide
  unfold m_X8_days
  rw [e]
  exact g
theorem ag_set (H : PR T z mo) : AG T (m_X8_set z x1 x2) (m_X9_set mo x1 x2) ec := by
  have g := ag_act (es := ec) (On := fun r => (r ((2 : Int32) + x1).toNatClampNeg, upd r ((2 : Int32) + x1).toNatClampNeg x2)) H (a_set (x := x1) (v := x2) H.2.1.1 H.2.1.2.1 H.2.1.2.2) (fun e => set_rok H.2.1.2.1 e) (by decide)
  have e : m_X9_set mo x1 x2 = if (m_X9_refused mo (whySet x1 x2)).1 = 0 then ((mN (m_X9_remember (mR' mo (whySet x1 x2)))) ((2 : Int32) + x1).toNatClampNeg, mN' (m_X9_remember (mR' mo (whySet x1 x2))) (upd (mN (m_X9_remember (mR' mo (whySet x1 x2)))) ((2 : Int32) + x1).toNatClampNeg x2)) else (0, mR' mo (whySet x1 x2)) := by
    rw [wset_eq]
    unfold m_X9_refused
    by_cases c : whySet x1 x2 = 0
    · rw [if_pos c, c]
      rw [if_pos]
      show (if (0 : Int32) ≤ 0 then (0 : Int32) else 1) = 0
      decide
    · have c1 : whySet x1 x2 = 1 := ws_or c
      rw [if_neg c, c1]
      rw [if_neg]
      show ¬ (if (1 : Int32) ≤ 0 then (0 : Int32) else 1) = 0
      decide
  unfold m_X8_set
  rw [e]
  exact g
theorem ag_undo (H : PR T z mo) : AG T (m_X8_undo z) (m_X9_undo mo) ef := by
  have hc := H.2.2.1.2.1
  unfold m_X8_undo m_X9_undo
  by_cases c : mA mo = 0
  · rw [if_pos (hc.trans c), if_pos c]
    exact ag_no H ef1
  · rw [if_neg (fun e => c (hc.symm.trans e)), if_neg c]
    obtain ⟨k1, k2, k3⟩ := H.2.2.1.back (st := pN z) c
    have h := H.up (T2 := T + 99) (by omega)
    generalize m_X9_copyState (mD mo) (mN mo) (383 * (mA mo - 1)) 0 = W at *
    refine ⟨⟨h.1, ⟨k2.1, k2.2.1, BD_up k2.2.2 (by omega)⟩, (k3 (mN' (mA' (mR' mo 0) (mA mo - 1)) W) rfl rfl).up (by omega), h.2.2.2⟩, Or.inl ⟨rfl, rfl, ?_⟩⟩
    show hC (hiBack (pH z) (pN z)).2 = mA mo - 1
    rw [k1]
    show hC (pH z) - 1 = mA mo - 1
    rw [hc]
end AGS
