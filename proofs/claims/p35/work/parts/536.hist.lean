/-! what is remembered: class's ring beside the reference's diary -/
def sg (f : Nat → Int32) (a : Nat) : Nat → Int32 := fun i => f (a + i)
def HR (T : Int) (h : HiT) (mo : MoT) : Prop := hiOK h ∧ hC h = mA mo ∧ ∀ j : Nat, j < (hC h).toNatClampNeg → RS (hK h (((hO h).toNatClampNeg + j) % 15)) (sg (mD mo) (383 * j)) ∧ rOK (sg (mD mo) (383 * j)) ∧ BD T (sg (mD mo) (383 * j))
theorem i15 : (15 : Int32).toInt = 15 := by decide
theorem i14 : (14 : Int32).toInt = 14 := by decide
theorem hiN_n {z : HiT} (h : hiOK z) : (hiN z).toNatClampNeg = ((hO z).toNatClampNeg + (hC z).toNatClampNeg) % 15 := by
  have a1 := h.1.1
  have a2 := h.1.2
  have b1 := h.2.1
  have b2 := h.2.2
  have s : (hO z + hC z).toInt = (hO z).toInt + (hC z).toInt := i32_add (by omega) (by omega)
  unfold hiN
  rw [tnc_d, i32_mod (by omega) i15 (by decide), s, tnc_d, tnc_d]
  omega
theorem o1_n {x : Int32} (h : iv 0 14 x) : ((x + 1) - ((x + 1) / 15) * 15).toNatClampNeg = (x.toNatClampNeg + 1) % 15 := by
  have a1 := h.1
  have a2 := h.2
  have s : (x + 1).toInt = x.toInt + 1 := by rw [i32_add (by rw [i32_1]; omega) (by rw [i32_1]; omega), i32_1]
  rw [tnc_d, i32_mod (by omega) i15 (by decide), s, tnc_d]
  omega
theorem HR.prep {T : Int} {h : HiT} {mo : MoT} {st : StT} (H : HR T h mo) : HR T (hiPrep h st) mo := by
  obtain ⟨h1, h2, h3⟩ := H
  refine ⟨h1, h2, fun j hj => ?_⟩
  have g := h3 j hj
  have n := hiN_n h1
  have b2 := h1.2.2
  have b1 := h1.2.1
  have hj2 : j < (hC h).toNatClampNeg := hj
  have c14 : (hC h).toNatClampNeg ≤ 14 := by rw [tnc_d]; omega
  have e : hK (hiPrep h st) (((hO h).toNatClampNeg + j) % 15) = hK h (((hO h).toNatClampNeg + j) % 15) := by
    show va_up (hK h) (hiN h).toNatClampNeg st _ = _
    unfold va_up
    rw [if_neg (by rw [n]; omega)]
  show RS (hK (hiPrep h st) (((hO h).toNatClampNeg + j) % 15)) _ ∧ _
  rw [e]
  exact g
theorem HR.up {T T2 : Int} {h : HiT} {mo : MoT} (H : HR T h mo) (e : T ≤ T2) : HR T2 h mo := ⟨H.1, H.2.1, fun j hj => ⟨(H.2.2 j hj).1, (H.2.2 j hj).2.1, BD_up (H.2.2 j hj).2.2 e⟩⟩
/-- the shift of the diary -/
theorem rem9_L : ∀ (nF k : Nat) (r : MoT), k ≤ 4979 → 4979 < nF + k → m_X9_remember_L11 nF r (nI k) = mA' (mD' r (m_X9_copyState (mN r) (fun j => if k ≤ j ∧ j < 4979 then mD r (j + 383) else mD r j) 0 (383 * (mA r - 1)))) ((mA r - 1) + 1) := by
  intro nF
  induction nF with
  | zero => intro k r h1 h2; omega
  | succ nF ih =>
    intro k r h1 h2
    have nk : (nI k).toInt = k := by
      unfold nI
      rw [Int32.toInt_ofNat_of_lt (by omega)]
    have e4979 : (4979 : Int32).toInt = 4979 := by decide
    have e383 : (383 : Int32).toInt = 383 := by decide
    rw [m_X9_remember_L11]
    by_cases c : (4979 : Int32) ≤ nI k
    · rw [if_pos c]
      rw [i32_le, nk, e4979] at c
      have : (fun j => if k ≤ j ∧ j < 4979 then mD r (j + 383) else mD r j) = mD r := by
        funext j
        rw [if_neg (by omega)]
      rw [this]
    · rw [if_neg c]
      have c2 := c
      rw [i32_le, nk, e4979] at c2
      have n1 : nI k + 1 = nI (k + 1) := i32_eq (by
        rw [lp_s c, nk]
        unfold nI
        rw [Int32.toInt_ofNat_of_lt (by omega)]
        rfl)
      have t0 : (nI k).toNatClampNeg = k := by rw [tnc_d, nk]; rfl
      have t1 : (nI k + 383).toNatClampNeg = k + 383 := by rw [tnc_d, i32_add (by rw [nk, e383]; omega) (by rw [nk, e383]; omega), nk, e383]; rfl
      rw [n1, t0, t1, ih (k + 1) _ (by omega) (by omega)]
      have : (fun j => if k + 1 ≤ j ∧ j < 4979 then mD (mD' r (upd (mD r) k (mD r (k + 383)))) (j + 383) else mD (mD' r (upd (mD r) k (mD r (k + 383)))) j) = (fun j => if k ≤ j ∧ j < 4979 then mD r (j + 383) else mD r j) := by
        funext j
        show (if k + 1 ≤ j ∧ j < 4979 then upd (mD r) k (mD r (k + 383)) (j + 383) else upd (mD r) k (mD r (k + 383)) j) = _
        by_cases e : j = k
        · rw [if_neg (by omega), if_pos (by omega), e, pk_us]
        · by_cases g : k + 1 ≤ j ∧ j < 4979
          · rw [if_pos g, if_pos (by omega), pk_un (by omega)]
          · rw [if_neg g, if_neg (by omega), pk_un e]
      rw [this]
      rfl
theorem m383 {x : Int32} (h : iv 0 13 x) : iv 0 4979 (383 * x) ∧ (383 * x).toNatClampNeg = 383 * x.toNatClampNeg := by
  have a1 := h.1
  have a2 := h.2
  have e383 : (383 : Int32).toInt = 383 := by decide
  have m : (383 * x).toInt = 383 * x.toInt := by rw [i32_mul (by rw [e383]; omega) (by rw [e383]; omega), e383]
  refine ⟨⟨by omega, by omega⟩, ?_⟩
  rw [tnc_d, m, tnc_d]
  omega
theorem iv00 : iv 0 4979 (0 : Int32) := iv_wide iv_0 (by decide)
/-- an action is remembered -/
theorem HR.keep {T : Int} {h : HiT} {mo : MoT} {st : StT} (H : HR T h mo) (hR : RS st (mN mo)) (hr : rOK (mN mo)) (hB : BD T (mN mo)) (v : Int32) : ∃ (D : Nat → Int32) (A : Int32), m_X9_remember (mR' mo v) = mA' (mD' (mR' mo v) D) A ∧ ∀ m2 : MoT, mD m2 = D → mA m2 = A → HR T (hiKeep (hiPrep h st)) m2 := by
  obtain ⟨h1, h2, h3⟩ := H
  have n := hiN_n h1
  have b2 := h1.2.2
  have b1 := h1.2.1
  have a1 := h1.1.1
  have a2 := h1.1.2
  have pk : ∀ q : Nat, hK (hiPrep h st) q = if q = ((hO h).toNatClampNeg + (hC h).toNatClampNeg) % 15 then st else hK h q := fun q => by
    show va_up (hK h) (hiN h).toNatClampNeg st q = _
    unfold va_up
    rw [n]
  have lowR : ∀ (f : Nat → Int32), (∀ j, j < 383 → f j = mN mo j) → RS st f ∧ rOK f ∧ BD T f := fun f e => ⟨hR.low hr e, rok_low hr e, hB.low e⟩
  have lowO : ∀ (f r : Nat → Int32) (s : StT), RS s r ∧ rOK r ∧ BD T r → (∀ j, j < 383 → f j = r j) → RS s f ∧ rOK f ∧ BD T f := fun f r s g e => ⟨g.1.low g.2.1 e, rok_low g.2.1 e, g.2.2.low e⟩
  have o14 : (hO h).toNatClampNeg ≤ 14 := by rw [tnc_d]; omega
  by_cases c : mA mo = 14
  · have c14 : (hC h).toNatClampNeg = 14 := by rw [h2, c]; decide
    have er : m_X9_remember (mR' mo v) = mA' (mD' (mR' mo v) (m_X9_copyState (mN mo) (fun j => if 0 ≤ j ∧ j < 4979 then mD mo (j + 383) else mD mo j) 0 (383 * (mA mo - 1)))) ((mA mo - 1) + 1) := by
      unfold m_X9_remember
      rw [if_pos (show mA (mR' mo v) = 14 from c)]
      exact rem9_L 10000 0 (mR' mo v) (by omega) (by omega)
    refine ⟨_, _, er, fun m2 eD eA => ?_⟩
    have iv13 : iv 0 13 (mA mo - 1) := by rw [c]; exact ⟨by decide, by decide⟩
    obtain ⟨i1, i2⟩ := m383 iv13
    have t13 : (mA mo - 1).toNatClampNeg = 13 := by rw [c]; decide
    rw [t13] at i2
    rw [cp_eq iv00 i1, i2, kn0] at eD
    have ek : hiKeep (hiPrep h st) = (hK (hiPrep h st), (hO h + 1) - ((hO h + 1) / 15) * 15, hC h) := by
      unfold hiKeep
      rw [if_pos (show (14 : Int32) ≤ hC (hiPrep h st) by show (14 : Int32) ≤ hC h; rw [h2, c]; decide)]
      rfl
    rw [ek]
    have no := o1_n h1.1
    have oi : iv 0 14 ((hO h + 1) - ((hO h + 1) / 15) * 15) := by
      have s : (hO h + 1).toInt = (hO h).toInt + 1 := by rw [i32_add (by rw [i32_1]; omega) (by rw [i32_1]; omega), i32_1]
      have m := i32_mod (x := hO h + 1) (by omega) i15 (by decide)
      exact ⟨by rw [m]; omega, by rw [m]; omega⟩
    refine ⟨⟨oi, h1.2⟩, ?_, fun j hj => ?_⟩
    · show hC h = mA m2
      rw [eA, h2, c]; rfl
    · have hj2 : j < 14 := by
        have q : j < (hC h).toNatClampNeg := hj
        rw [c14] at q; exact q
      show RS (hK (hiPrep h st) ((((hO h + 1) - ((hO h + 1) / 15) * 15).toNatClampNeg + j) % 15)) _ ∧ _
      rw [no, pk, c14, eD]
      by_cases e : j = 13
      · subst e
        rw [if_pos (by omega)]
        refine lowR _ (fun i hi => ?_)
        show (if 383 * 13 ≤ 383 * 13 + i ∧ 383 * 13 + i < 383 * 13 + 383 then mN mo (0 + (383 * 13 + i - 383 * 13)) else _) = _
        rw [if_pos (by omega), show 0 + (383 * 13 + i - 383 * 13) = i by omega]
      · rw [if_neg (by omega)]
        have g := h3 (j + 1) (by rw [c14]; omega)
        rw [show ((hO h).toNatClampNeg + 1) % 15 + j = ((hO h).toNatClampNeg + 1) % 15 + j from rfl, show (((hO h).toNatClampNeg + 1) % 15 + j) % 15 = ((hO h).toNatClampNeg + (j + 1)) % 15 by omega]
        refine lowO _ _ _ g (fun i hi => ?_)
        show (if 383 * 13 ≤ 383 * j + i ∧ 383 * j + i < 383 * 13 + 383 then _ else if 0 ≤ 383 * j + i ∧ 383 * j + i < 4979 then mD mo (383 * j + i + 383) else _) = mD mo (383 * (j + 1) + i)
        rw [if_neg (by omega), if_pos (by omega), show 383 * j + i + 383 = 383 * (j + 1) + i by omega]
  · have c13 : iv 0 13 (mA mo) := by
      rw [h2] at b1 b2
      refine ⟨b1, ?_⟩
      have : ¬ (mA mo).toInt = 14 := fun e => c (i32_eq (by rw [e, i14]))
      omega
    have cc : (hC h).toNatClampNeg ≤ 13 := by
      have := c13.2
      rw [h2, tnc_d]; omega
    have er : m_X9_remember (mR' mo v) = mA' (mD' (mR' mo v) (m_X9_copyState (mN mo) (mD mo) 0 (383 * mA mo))) (mA mo + 1) := by
      unfold m_X9_remember
      rw [if_neg (show ¬ mA (mR' mo v) = 14 from c)]
      rfl
    refine ⟨_, _, er, fun m2 eD eA => ?_⟩
    obtain ⟨i1, i2⟩ := m383 c13
    rw [cp_eq iv00 i1, i2, kn0] at eD
    have ek : hiKeep (hiPrep h st) = (hK (hiPrep h st), hO h, hC h + 1) := by
      unfold hiKeep
      rw [if_neg (show ¬ (14 : Int32) ≤ hC (hiPrep h st) by show ¬ (14 : Int32) ≤ hC h; rw [h2, i32_le, i14]; have := c13.2; omega)]
      rfl
    have s1 : (hC h + 1).toInt = (hC h).toInt + 1 := by rw [i32_add (by rw [i32_1]; omega) (by rw [i32_1]; omega), i32_1]
    have n1 : (hC h + 1).toNatClampNeg = (hC h).toNatClampNeg + 1 := by rw [tnc_d, s1, tnc_d]; omega
    have cA : (mA mo).toNatClampNeg = (hC h).toNatClampNeg := by rw [h2]
    have b13 := c13.2
    rw [ek]
    refine ⟨⟨h1.1, ⟨by show 0 ≤ (hC h + 1).toInt; omega, by show (hC h + 1).toInt ≤ 14; rw [s1, h2]; omega⟩⟩, ?_, fun j hj => ?_⟩
    · show hC h + 1 = mA m2
      rw [eA, h2]
    · have hj2 : j < (hC h).toNatClampNeg + 1 := by
        have q : j < (hC h + 1).toNatClampNeg := hj
        rw [n1] at q; exact q
      show RS (hK (hiPrep h st) (((hO h).toNatClampNeg + j) % 15)) _ ∧ _
      rw [pk, eD, cA]
      by_cases e : j = (hC h).toNatClampNeg
      · rw [e, if_pos rfl]
        refine lowR _ (fun i hi => ?_)
        show (if 383 * (hC h).toNatClampNeg ≤ 383 * (hC h).toNatClampNeg + i ∧ 383 * (hC h).toNatClampNeg + i < 383 * (hC h).toNatClampNeg + 383 then mN mo (0 + (383 * (hC h).toNatClampNeg + i - 383 * (hC h).toNatClampNeg)) else _) = _
        rw [if_pos (by omega), show 0 + (383 * (hC h).toNatClampNeg + i - 383 * (hC h).toNatClampNeg) = i by omega]
      · rw [if_neg (by omega)]
        have g := h3 j (by omega)
        refine lowO _ _ _ g (fun i hi => ?_)
        show (if 383 * (hC h).toNatClampNeg ≤ 383 * j + i ∧ 383 * j + i < 383 * (hC h).toNatClampNeg + 383 then _ else mD mo (383 * j + i)) = mD mo (383 * j + i)
        rw [if_neg (by omega)]
/-- the last one taken back -/
theorem HR.back {T : Int} {h : HiT} {mo : MoT} {st : StT} (H : HR T h mo) (c : ¬ mA mo = 0) : hiBack h st = (hK h (((hO h).toNatClampNeg + (hC h).toNatClampNeg - 1) % 15), hiDown h) ∧ (RS (hiBack h st).1 (m_X9_copyState (mD mo) (mN mo) (383 * (mA mo - 1)) 0) ∧ rOK (m_X9_copyState (mD mo) (mN mo) (383 * (mA mo - 1)) 0) ∧ BD T (m_X9_copyState (mD mo) (mN mo) (383 * (mA mo - 1)) 0)) ∧ ∀ m2 : MoT, mD m2 = mD mo → mA m2 = mA mo - 1 → HR T (hiBack h st).2 m2 := by
  obtain ⟨h1, h2, h3⟩ := H
  have b2 := h1.2.2
  have b1 := h1.2.1
  have cn : ¬ (hC h).toInt = 0 := fun e => c (i32_eq (by rw [← h2, e, i32_0]))
  have s1 : (hC h - 1).toInt = (hC h).toInt - 1 := by rw [i32_sub (by rw [i32_1]; omega) (by rw [i32_1]; omega), i32_1]
  have t1 : (hC h - 1).toNatClampNeg = (hC h).toNatClampNeg - 1 := by rw [tnc_d, s1, tnc_d]; omega
  have dn : hiOK (hiDown h) := ⟨h1.1, ⟨by show 0 ≤ (hC h - 1).toInt; omega, by show (hC h - 1).toInt ≤ 14; omega⟩⟩
  have cp : 1 ≤ (hC h).toNatClampNeg := by rw [tnc_d]; omega
  have nd := hiN_n dn
  have nd2 : (hiN (hiDown h)).toNatClampNeg = ((hO h).toNatClampNeg + (hC h).toNatClampNeg - 1) % 15 := by
    rw [nd]
    show ((hO h).toNatClampNeg + (hC h - 1).toNatClampNeg) % 15 = _
    rw [t1]
    congr 1
    omega
  have e : hiBack h st = (hK h (((hO h).toNatClampNeg + (hC h).toNatClampNeg - 1) % 15), hiDown h) := by
    unfold hiBack
    rw [if_neg (by rw [i32_le, i32_0]; omega), nd2]
  have g := h3 ((hC h).toNatClampNeg - 1) (by omega)
  have iv13 : iv 0 13 (mA mo - 1) := by rw [← h2]; exact ⟨by omega, by omega⟩
  obtain ⟨i1, i2⟩ := m383 iv13
  have tA : (mA mo - 1).toNatClampNeg = (hC h).toNatClampNeg - 1 := by rw [← h2]; exact t1
  rw [tA] at i2
  have ec : ∀ j, j < 383 → m_X9_copyState (mD mo) (mN mo) (383 * (mA mo - 1)) 0 j = sg (mD mo) (383 * ((hC h).toNatClampNeg - 1)) j := fun j hj => by
    rw [cp_eq i1 iv00, kn0, i2]
    show (if 0 ≤ j ∧ j < 0 + 383 then mD mo (383 * ((hC h).toNatClampNeg - 1) + (j - 0)) else _) = mD mo (383 * ((hC h).toNatClampNeg - 1) + j)
    rw [if_pos (by omega), Nat.sub_zero]
  rw [e]
  refine ⟨rfl, ⟨?_, rok_low g.2.1 ec, g.2.2.low ec⟩, fun m2 eD eA => ⟨dn, ?_, fun j hj => ?_⟩⟩
  · rw [show (hO h).toNatClampNeg + (hC h).toNatClampNeg - 1 = (hO h).toNatClampNeg + ((hC h).toNatClampNeg - 1) by omega]
    exact g.1.low g.2.1 ec
  · show hC h - 1 = mA m2
    rw [eA, h2]
  · have q : j < (hC h - 1).toNatClampNeg := hj
    rw [t1] at q
    rw [eD]
    exact h3 j (by omega)
theorem HR.none {T : Int} {h : HiT} {mo : MoT} (H : hiOK h) (e : mA mo = 0) : HR T (hiForget h) mo := ⟨⟨H.1, iv_wide iv_0 (by decide)⟩, by rw [e]; rfl, fun j hj => by
  have q : j < (0 : Int32).toNatClampNeg := hj
  rw [kn0] at q
  omega⟩
