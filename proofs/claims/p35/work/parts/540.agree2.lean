/-! the other calls of the pool beside the reference -/
section AGQ
variable {T : Int} {z : SpT} {mo : MoT} {x1 x2 x3 x4 : Int32}
theorem e255 : (255 : Int64).toInt = (255 : Int32).toInt := by decide
theorem e9' : (9 : Int64).toInt = (9 : Int32).toInt := by decide
theorem e6' : (6 : Int64).toInt = (6 : Int32).toInt := by decide
theorem e5' : (5 : Int64).toInt = (5 : Int32).toInt := by decide
theorem e99' : (99 : Int64).toInt = (99 : Int32).toInt := by decide
theorem e1' : (1 : Int64).toInt = (1 : Int32).toInt := by decide
theorem pr_text {T : Int} {z : SpT} {mo m2 : MoT} {t : TxT} (H : PR T z mo) (e1 : tS t = mT m2) (e2 : tL t = mZ m2) (e3 : iv 0 120 (mZ m2)) (k1 : mN m2 = mN mo) (k2 : mD m2 = mD mo) (k3 : mA m2 = mA mo) (k4 : mI m2 = mI mo) (k5 : mK m2 = mK mo) : PR (T + 99) (pT' z t) m2 := by
  have h := H.up (T2 := T + 99) (by omega)
  refine ⟨⟨e1, e2, e3⟩, ?_, ?_, ?_⟩
  · rw [k1]; exact h.2.1
  · exact ⟨h.2.2.1.1, h.2.2.1.2.1.trans k3.symm, by rw [k2]; exact h.2.2.1.2.2⟩
  · rw [k4, k5]; exact h.2.2.2
theorem ag_append (H : PR T z mo) : AG T (m_X8_append z x1) (m_X9_append mo x1) eg := by
  obtain ⟨t1, t2, t3⟩ := H.1
  unfold m_X8_append m_X9_append
  by_cases c1 : x1 < 0
  · rw [if_pos c1, if_pos ((in0_iff e255).mpr (Or.inl c1))]
    exact ag_no H eg1
  rw [if_neg c1]
  by_cases c2 : x1 ≤ 255
  case neg =>
    rw [if_neg c2, if_pos ((in0_iff e255).mpr (Or.inr c2))]
    exact ag_no H eg1
  rw [if_pos c2, if_neg (fun e => ((in0_iff e255).mp e).elim c1 (fun q => q c2))]
  have e120 : (120 : Int32).toInt = 120 := by decide
  by_cases c3 : mZ mo = 120
  · rw [if_pos c3, if_neg (show ¬ tL (pT z) < 120 by rw [t2, c3]; decide)]
    exact ag_no H eg2
  · have lt : (mZ mo).toInt < 120 := by
      have := t3.2
      have : ¬ (mZ mo).toInt = 120 := fun e => c3 (i32_eq (by rw [e, e120]))
      omega
    rw [if_neg c3, if_pos (show tL (pT z) < 120 by rw [t2, i32_lt, e120]; exact lt)]
    have s1 : (mZ mo + 1).toInt = (mZ mo).toInt + 1 := by
      have := t3.1
      rw [i32_add (by rw [i32_1]; omega) (by rw [i32_1]; omega), i32_1]
    have ea : m_X6_add (pT z) x1 = (tL (pT z) + 1, tL' (tS' (pT z) (upd (tS (pT z)) (tL (pT z)).toNatClampNeg x1)) (tL (pT z) + 1)) := by
      unfold m_X6_add
      rw [if_neg (show ¬ (120 : Int32) ≤ tL (pT z) by rw [t2, i32_le, e120]; omega)]
    rw [ea, t2, t1]
    refine ⟨pr_text H rfl rfl ⟨?_, ?_⟩ rfl rfl rfl rfl rfl, Or.inl ⟨rfl, rfl, rfl⟩⟩
    · show 0 ≤ (mZ mo + 1).toInt
      have := t3.1
      omega
    · show (mZ mo + 1).toInt ≤ 120
      omega
theorem ag_clearText (H : PR T z mo) : PR (T + 99) (pT' z (tL' (pT z) 0)) (m_X9_clearText mo).2 ∧ tL (pT z) = (m_X9_clearText mo).1 := by
  obtain ⟨t1, t2, t3⟩ := H.1
  unfold m_X9_clearText
  exact ⟨pr_text H t1 rfl ⟨by show 0 ≤ (0 : Int32).toInt; decide, by show (0 : Int32).toInt ≤ 120; decide⟩ rfl rfl rfl rfl rfl, t2⟩
theorem ag_errorPosition (H : PR T z mo) : PR (T + 99) (pT' z (m_X6_firstError (pT z)).2) (m_X9_errorPosition mo).2 ∧ (m_X6_firstError (pT z)).1 = (m_X9_errorPosition mo).1 := by
  obtain ⟨t1, t2, t3⟩ := H.1
  obtain ⟨k1, ⟨W, P, O, k2⟩, -⟩ := text_eq (tx := pT z) (mo := mR' mo 0) t1 t2 t3
  have e : m_X9_errorPosition mo = ((m_X9_readText (mR' mo 0)).1, (m_X9_readText (mR' mo 0)).2) := rfl
  rw [e]
  refine ⟨?_, k1⟩
  show PR (T + 99) _ (m_X9_readText (mR' mo 0)).2
  rw [k2]
  exact pr_text H ((fe_S _).trans t1) ((fe_L _).trans t2) t3 rfl rfl rfl rfl rfl
theorem load_pr {z2 : SpT} {M : MoT} {N9 : Nat → Int32} {w : Int32} (t : tS (pT z2) = mT M ∧ tL (pT z2) = mZ M ∧ iv 0 120 (mZ M)) (n : RS (pN z2) N9 ∧ rOK N9 ∧ BD (T + 99) N9) (h : ∀ m2 : MoT, mA m2 = 0 → HR (T + 99) (pH z2) m2) (g9 : pV z2 = upd (upd (pV z) (0 : Int32).toNatClampNeg (0 : Int32)) (1 : Int32).toNatClampNeg (0 : Int32)) (e : w = mO M) : AG T (0, w, z2) (mO M, mI' (mA' (mN' (mR' M (0 : Int32)) N9) (0 : Int32)) (upd (upd (mI M) (0 : Int32).toNatClampNeg (0 : Int32)) (1 : Int32).toNatClampNeg (0 : Int32))) ef := by
  refine ⟨⟨t, n, h _ rfl, ⟨⟨?_, ?_⟩, fun q => absurd ?_ q, fun q => absurd ?_ q⟩⟩, Or.inl ⟨rfl, rfl, e⟩⟩
  · show pV z2 0 = _
    rw [g9]; rfl
  · show pV z2 1 = _
    rw [g9]; rfl
  · rfl
  · rfl
theorem ag_load (H : PR T z mo) (hT : 100000 ≤ T) : AG T (m_X8_load z) (m_X9_load mo) ef := by
  obtain ⟨t1, t2, t3⟩ := H.1
  obtain ⟨k1, ⟨W, P, O, k2⟩, k3⟩ := text_eq (tx := pT z) (mo := mo) t1 t2 t3
  have rw1 := rt_W (mo := mo) t3
  have f1 := fe_S (pT z)
  have f2 := fe_L (pT z)
  unfold m_X8_load m_X9_load
  rw [k1]
  generalize m_X6_firstError (pT z) = FE at *
  by_cases c : (m_X9_readText mo).1 = -1
  · rw [if_pos c, if_pos c]
    have g := k3 (pV' (pH' (pN' (pT' z FE.2) (m_X5_startAnew (pN z))) (hiForget (pH z))) (upd (upd (pV z) (0 : Int32).toNatClampNeg (0 : Int32)) (1 : Int32).toNatClampNeg (0 : Int32))) (f1.trans t1) (f2.trans t2) ⟨_, rfl⟩ c
    generalize m_X8_doText (pV' (pH' (pN' (pT' z FE.2) (m_X5_startAnew (pN z))) (hiForget (pH z))) (upd (upd (pV z) (0 : Int32).toNatClampNeg (0 : Int32)) (1 : Int32).toNatClampNeg (0 : Int32))) = DT at *
    obtain ⟨g1, g2, g3, g4, g5, g6, g7, g8, g9⟩ := g
    have e1 : mT (m_X9_readText mo).2 = mT mo := by rw [k2]; rfl
    have e2 : mZ (m_X9_readText mo).2 = mZ mo := by rw [k2]; rfl
    have e3 : mN (m_X9_readText mo).2 = mN mo := by rw [k2]; rfl
    generalize (m_X9_readText mo).2 = M at *
    have rw2 : rOK (mN M) := by rw [e3]; exact H.2.1.2.1
    have w1 : RS (pN DT.2) (m_X9_copyState (mW M) (mN M) 0 0) := RS.cp g2 rw1
    have w2 : rOK (m_X9_copyState (mW M) (mN M) 0 0) := cp_rok rw1
    have w3 : BD (T + 99) (m_X9_copyState (mW M) (mN M) 0 0) := BD_up (BD.cp g3) (by omega)
    generalize m_X9_copyState (mW M) (mN M) 0 0 = N9 at *
    have hh : ∀ m2 : MoT, mA m2 = 0 → HR (T + 99) (pH DT.2) m2 := fun m2 q => by
      rw [g8]
      exact HR.none H.2.2.1.1 q
    exact load_pr (z := z) ⟨g4.trans e1.symm, g5.trans e2.symm, by rw [e2]; exact t3⟩ ⟨w1, w2, w3⟩ hh g9 g1
  · rw [if_neg c, if_neg c]
    refine ⟨?_, Or.inr ⟨_, ef1, rfl, rfl⟩⟩
    show PR (T + 99) (pT' z FE.2) (mR' (m_X9_readText mo).2 1)
    rw [k2]
    exact pr_text H (f1.trans t1) (f2.trans t2) t3 rfl rfl rfl rfl rfl
theorem fuel100 {un : UnT} (hu : uOK un) : ((uN un).toInt - (0 : Int32).toInt).toNat < 100 := by
  have := hu.2
  rw [i32_0]; omega
theorem ag_about (H : PR T z mo) : AG T (m_X8_about z x1) (m_X9_about mo x1) ec := by
  have hR := H.2.1.1
  have hr := H.2.1.2.1
  have ok := hR.ok hr
  have n := hR.2.2.2.2.2
  have e := about_L (x1 := x1) hR hr 100 0 0 0 (by decide) (fuel100 ok.1)
  have ov : m_X7_onLoan_L4 100 (sU (pN z)) 0 0 = m_X7_onLoan (sU (pN z)) := rfl
  have db : m_X7_dueBefore_L4 100 (sU (pN z)) (sT (pN z)) 0 0 = m_X7_dueBefore (sU (pN z)) (sT (pN z)) := rfl
  rw [ov, db] at e
  unfold m_X8_about m_X9_about
  rw [e]
  unfold aboutEnd
  by_cases c0 : x1 = 0
  · subst c0
    rw [if_pos rfl, if_neg (show ¬ m_X9_in (0 : Int32).toInt64 0 9 = 0 by decide), if_pos rfl]
    exact ag_ok H (by rw [kn0]; exact n.1.symm)
  rw [if_neg c0]
  by_cases c1 : x1 = 1
  · subst c1
    rw [if_pos rfl, if_neg (show ¬ m_X9_in (1 : Int32).toInt64 0 9 = 0 by decide), if_neg (show ¬ (1 : Int32) = 0 by decide), if_pos rfl]
    exact ag_ok H (by rw [kn1]; exact hR.1.1.symm)
  rw [if_neg c1]
  by_cases c2 : x1 = 2
  · subst c2
    rw [if_pos rfl, if_neg (show ¬ m_X9_in (2 : Int32).toInt64 0 9 = 0 by decide), if_neg (show ¬ (2 : Int32) = 0 by decide), if_neg (show ¬ (2 : Int32) = 1 by decide), if_pos rfl]
    exact ag_ok H ((usable_eq hR hr).symm)
  rw [if_neg c2]
  by_cases c3 : x1 = 3
  · subst c3
    rw [if_pos rfl, if_neg (show ¬ m_X9_in (3 : Int32).toInt64 0 9 = 0 by decide), if_neg (show ¬ (3 : Int32) = 0 by decide), if_neg (show ¬ (3 : Int32) = 1 by decide), if_neg (show ¬ (3 : Int32) = 2 by decide), if_pos rfl]
    exact ag_ok H (rfl)
  rw [if_neg c3]
  by_cases c4 : x1 = 4
  · subst c4
    rw [if_pos rfl, if_neg (show ¬ m_X9_in (4 : Int32).toInt64 0 9 = 0 by decide), if_neg (show ¬ (4 : Int32) = 0 by decide), if_neg (show ¬ (4 : Int32) = 1 by decide), if_neg (show ¬ (4 : Int32) = 2 by decide), if_neg (show ¬ (4 : Int32) = 3 by decide), if_pos rfl]
    exact ag_ok H (rfl)
  rw [if_neg c4]
  by_cases c5 : x1 = 5
  · subst c5
    rw [if_pos rfl, if_neg (show ¬ m_X9_in (5 : Int32).toInt64 0 9 = 0 by decide), if_neg (show ¬ (5 : Int32) = 0 by decide), if_neg (show ¬ (5 : Int32) = 1 by decide), if_neg (show ¬ (5 : Int32) = 2 by decide), if_neg (show ¬ (5 : Int32) = 3 by decide), if_neg (show ¬ (5 : Int32) = 4 by decide), if_pos rfl]
    exact ag_ok H ((cores_eq hR).symm)
  rw [if_neg c5]
  by_cases c6 : x1 = 6
  · subst c6
    rw [if_pos rfl, if_neg (show ¬ m_X9_in (6 : Int32).toInt64 0 9 = 0 by decide), if_neg (show ¬ (6 : Int32) = 0 by decide), if_neg (show ¬ (6 : Int32) = 1 by decide), if_neg (show ¬ (6 : Int32) = 2 by decide), if_neg (show ¬ (6 : Int32) = 3 by decide), if_neg (show ¬ (6 : Int32) = 4 by decide), if_neg (show ¬ (6 : Int32) = 5 by decide), if_pos rfl]
    exact ag_ok H ((parts_all hR).symm)
  rw [if_neg c6]
  by_cases c7 : x1 = 7
  · subst c7
    rw [if_pos rfl, if_neg (show ¬ m_X9_in (7 : Int32).toInt64 0 9 = 0 by decide), if_neg (show ¬ (7 : Int32) = 0 by decide), if_neg (show ¬ (7 : Int32) = 1 by decide), if_neg (show ¬ (7 : Int32) = 2 by decide), if_neg (show ¬ (7 : Int32) = 3 by decide), if_neg (show ¬ (7 : Int32) = 4 by decide), if_neg (show ¬ (7 : Int32) = 5 by decide), if_neg (show ¬ (7 : Int32) = 6 by decide), if_pos rfl]
    exact ag_ok H (by rw [kn6]; exact n.2.1.symm)
  rw [if_neg c7]
  by_cases c8 : x1 = 8
  · subst c8
    rw [if_pos rfl, if_neg (show ¬ m_X9_in (8 : Int32).toInt64 0 9 = 0 by decide), if_neg (show ¬ (8 : Int32) = 0 by decide), if_neg (show ¬ (8 : Int32) = 1 by decide), if_neg (show ¬ (8 : Int32) = 2 by decide), if_neg (show ¬ (8 : Int32) = 3 by decide), if_neg (show ¬ (8 : Int32) = 4 by decide), if_neg (show ¬ (8 : Int32) = 5 by decide), if_neg (show ¬ (8 : Int32) = 6 by decide), if_neg (show ¬ (8 : Int32) = 7 by decide), if_pos rfl]
    exact ag_ok H (by rw [kn7]; exact n.2.2.1.symm)
  rw [if_neg c8]
  by_cases c9 : x1 = 9
  · subst c9
    rw [if_pos rfl, if_neg (show ¬ m_X9_in (9 : Int32).toInt64 0 9 = 0 by decide), if_neg (show ¬ (9 : Int32) = 0 by decide), if_neg (show ¬ (9 : Int32) = 1 by decide), if_neg (show ¬ (9 : Int32) = 2 by decide), if_neg (show ¬ (9 : Int32) = 3 by decide), if_neg (show ¬ (9 : Int32) = 4 by decide), if_neg (show ¬ (9 : Int32) = 5 by decide), if_neg (show ¬ (9 : Int32) = 6 by decide), if_neg (show ¬ (9 : Int32) = 7 by decide), if_neg (show ¬ (9 : Int32) = 8 by decide)]
    exact ag_ok H (by rw [kn5]; exact n.2.2.2.symm)
  rw [if_neg c9]
  rw [if_pos ((in0_iff e9').mpr ?_)]
  · exact ag_no H c21
  · by_cases q : x1 < 0
    · exact Or.inl q
    · refine Or.inr (fun w => ?_)
      rw [i32_lt, i32_0] at q
      have e9 : (9 : Int32).toInt = 9 := by decide
      rw [i32_le, e9] at w
      have : x1.toInt = 0 ∨ x1.toInt = 1 ∨ x1.toInt = 2 ∨ x1.toInt = 3 ∨ x1.toInt = 4 ∨ x1.toInt = 5 ∨ x1.toInt = 6 ∨ x1.toInt = 7 ∨ x1.toInt = 8 ∨ x1.toInt = 9 := by omega
      rcases this with t | t | t | t | t | t | t | t | t | t
      · exact c0 (i32_eq (by rw [t]; decide))
      · exact c1 (i32_eq (by rw [t]; decide))
      · exact c2 (i32_eq (by rw [t]; decide))
      · exact c3 (i32_eq (by rw [t]; decide))
      · exact c4 (i32_eq (by rw [t]; decide))
      · exact c5 (i32_eq (by rw [t]; decide))
      · exact c6 (i32_eq (by rw [t]; decide))
      · exact c7 (i32_eq (by rw [t]; decide))
      · exact c8 (i32_eq (by rw [t]; decide))
      · exact c9 (i32_eq (by rw [t]; decide))
theorem ag_unit (H : PR T z mo) : AG T (m_X8_unit z x1 x2) (m_X9_unit mo x1 x2) ed := by
  have hR := H.2.1.1
  have hr := H.2.1.2.1
  have ok := hR.ok hr
  unfold m_X8_unit m_X9_unit
  rw [unit_eq hR.1.1 ok.1]
  by_cases h0 : m_X7_has (sU (pN z)) x1 = 0
  · rw [if_pos h0, if_pos h0]; exact ag_no H d11
  rw [if_neg h0, if_neg h0]
  by_cases c0 : x2 = 0
  · subst c0
    rw [if_pos rfl, if_neg (show ¬ m_X9_in (0 : Int32).toInt64 0 5 = 0 by decide), if_neg (show ¬ (4 : Int32) ≤ 0 by decide)]
    exact ag_ok H ((ru_k hR.1 ok.1 h0).symm)
  rw [if_neg c0]
  by_cases c1 : x2 = 1
  · subst c1
    rw [if_pos rfl, if_neg (show ¬ m_X9_in (1 : Int32).toInt64 0 5 = 0 by decide), if_neg (show ¬ (4 : Int32) ≤ 1 by decide)]
    exact ag_ok H ((ru_o hR.1 ok.1 h0).symm)
  rw [if_neg c1]
  by_cases c2 : x2 = 2
  · subst c2
    rw [if_pos rfl, if_neg (show ¬ m_X9_in (2 : Int32).toInt64 0 5 = 0 by decide), if_neg (show ¬ (4 : Int32) ≤ 2 by decide)]
    exact ag_ok H ((ru_p hR.1 ok.1 h0).symm)
  rw [if_neg c2]
  by_cases c3 : x2 = 3
  · subst c3
    rw [if_pos rfl, if_neg (show ¬ m_X9_in (3 : Int32).toInt64 0 5 = 0 by decide), if_neg (show ¬ (4 : Int32) ≤ 3 by decide)]
    exact ag_ok H ((ru_q hR.1 ok.1 h0).symm)
  rw [if_neg c3]
  by_cases c4 : x2 = 4
  · subst c4
    rw [if_pos rfl, if_neg (show ¬ m_X9_in (4 : Int32).toInt64 0 5 = 0 by decide), if_pos (show (4 : Int32) ≤ 4 by decide), if_neg (show ¬ (4 : Int32) = 5 by decide), free_eq hR.1 ok.1 h0]
    by_cases f : m_X7_isFree (sU (pN z)) x1 = 0
    · have n : ¬ uP (sU (pN z)) x1.toNatClampNeg = uO (sU (pN z)) x1.toNatClampNeg := fun e => by
        unfold m_X7_isFree at f
        rw [if_neg h0, if_pos e] at f
        exact absurd f (by decide)
      rw [if_pos f]
      exact ag_ok H (ru_d hR.1 ok.1 h0 n).symm
    · have p : uP (sU (pN z)) x1.toNatClampNeg = uO (sU (pN z)) x1.toNatClampNeg := by
        unfold m_X7_isFree at f
        rw [if_neg h0] at f
        by_cases p : uP (sU (pN z)) x1.toNatClampNeg = uO (sU (pN z)) x1.toNatClampNeg
        · exact p
        · rw [if_neg p] at f; exact absurd rfl f
      rw [if_neg f]
      exact ag_ok H ((hR.1.2 _ (has_in ok.1 h0).2).2.2.2.2.1 p)
  rw [if_neg c4]
  by_cases c5 : x2 = 5
  · subst c5
    rw [if_pos rfl, if_neg (show ¬ m_X9_in (5 : Int32).toInt64 0 5 = 0 by decide), if_pos (show (4 : Int32) ≤ 5 by decide), if_pos rfl]
    exact ag_ok H ((lateOf_eq hR hr h0 0).symm)
  rw [if_neg c5]
  rw [if_pos ((in0_iff e5').mpr ?_)]
  · exact ag_no H d22
  · by_cases q : x2 < 0
    · exact Or.inl q
    · refine Or.inr (fun w => ?_)
      rw [i32_lt, i32_0] at q
      rw [i32_le, ii5] at w
      have : x2.toInt = 0 ∨ x2.toInt = 1 ∨ x2.toInt = 2 ∨ x2.toInt = 3 ∨ x2.toInt = 4 ∨ x2.toInt = 5 := by omega
      rcases this with t | t | t | t | t | t
      · exact c0 (i32_eq (by rw [t]; decide))
      · exact c1 (i32_eq (by rw [t]; decide))
      · exact c2 (i32_eq (by rw [t]; decide))
      · exact c3 (i32_eq (by rw [t]; decide))
      · exact c4 (i32_eq (by rw [t]; decide))
      · exact c5 (i32_eq (by rw [t]; decide))
theorem ag_holder (H : PR T z mo) : AG T (m_X8_holder z x1 x2) (m_X9_holder mo x1 x2) ed := by
  have hR := H.2.1.1
  have hr := H.2.1.2.1
  have ok := hR.ok hr
  have e := holder_L (x1 := x1) (x2 := x2) hR hr 100 0 0 0 0 (by decide) (fuel100 ok.1)
  have o1 : m_X7_ownedBy_L4 100 (sU (pN z)) x1 0 0 = m_X7_ownedBy (sU (pN z)) x1 := rfl
  have o2 : m_X7_placedAt_L4 100 (sU (pN z)) x1 0 0 = m_X7_placedAt (sU (pN z)) x1 := rfl
  have o3 : m_X7_borrowedBy_L4 100 (sU (pN z)) x1 0 0 = m_X7_borrowedBy (sU (pN z)) x1 := rfl
  rw [o1, o2, o3] at e
  unfold m_X8_holder m_X9_holder
  rw [hold_eq, e]
  unfold holderEnd
  by_cases h0 : m_X8_isHolder x1 = 0
  · rw [if_pos h0, if_pos h0]; exact ag_no H d11
  rw [if_neg h0, if_neg h0]
  have hx := hold_iv h0
  have hX := iv_tnc (n := 5) hx (by decide)
  have f88 : ((88 : Int32) + x1).toNatClampNeg = 88 + x1.toNatClampNeg := by
    have h2 := hx.2
    have h3 := hx.1
    have e : (88 : Int32).toInt = 88 := by decide
    rw [tnc_d, tnc_d, i32_add (by omega) (by omega), e]
    omega
  by_cases c0 : x2 = 0
  · subst c0
    rw [if_pos rfl, if_neg (show ¬ m_X9_in (0 : Int32).toInt64 0 6 = 0 by decide), if_pos rfl]
    exact ag_ok H (by rw [f88]; exact (hR.2.2.2.1 _ hX).symm)
  rw [if_neg c0]
  by_cases c1 : x2 = 1
  · subst c1
    rw [if_pos rfl, if_neg (show ¬ m_X9_in (1 : Int32).toInt64 0 6 = 0 by decide), if_neg (show ¬ (1 : Int32) = 0 by decide), if_pos rfl]
    exact ag_ok H (rfl)
  rw [if_neg c1]
  by_cases c2 : x2 = 2
  · subst c2
    rw [if_pos rfl, if_neg (show ¬ m_X9_in (2 : Int32).toInt64 0 6 = 0 by decide), if_neg (show ¬ (2 : Int32) = 0 by decide), if_neg (show ¬ (2 : Int32) = 1 by decide), if_pos rfl]
    exact ag_ok H (rfl)
  rw [if_neg c2]
  by_cases c3 : x2 = 3
  · subst c3
    rw [if_pos rfl, if_neg (show ¬ m_X9_in (3 : Int32).toInt64 0 6 = 0 by decide), if_neg (show ¬ (3 : Int32) = 0 by decide), if_neg (show ¬ (3 : Int32) = 1 by decide), if_neg (show ¬ (3 : Int32) = 2 by decide), if_pos rfl]
    exact ag_ok H (rfl)
  rw [if_neg c3]
  by_cases c4 : x2 = 4
  · subst c4
    rw [if_pos rfl, if_neg (show ¬ m_X9_in (4 : Int32).toInt64 0 6 = 0 by decide), if_neg (show ¬ (4 : Int32) = 0 by decide), if_neg (show ¬ (4 : Int32) = 1 by decide), if_neg (show ¬ (4 : Int32) = 2 by decide), if_neg (show ¬ (4 : Int32) = 3 by decide), if_pos rfl]
    exact ag_ok H (by rw [ix_cores hx]; exact (hR.2.1 _ hX).1.symm)
  rw [if_neg c4]
  by_cases c5 : x2 = 5
  · subst c5
    rw [if_pos rfl, if_neg (show ¬ m_X9_in (5 : Int32).toInt64 0 6 = 0 by decide), if_neg (show ¬ (5 : Int32) = 0 by decide), if_neg (show ¬ (5 : Int32) = 1 by decide), if_neg (show ¬ (5 : Int32) = 2 by decide), if_neg (show ¬ (5 : Int32) = 3 by decide), if_neg (show ¬ (5 : Int32) = 4 by decide), if_pos rfl]
    exact ag_ok H ((parts_by hR hx).symm)
  rw [if_neg c5]
  by_cases c6 : x2 = 6
  · subst c6
    rw [if_pos rfl, if_neg (show ¬ m_X9_in (6 : Int32).toInt64 0 6 = 0 by decide), if_neg (show ¬ (6 : Int32) = 0 by decide), if_neg (show ¬ (6 : Int32) = 1 by decide), if_neg (show ¬ (6 : Int32) = 2 by decide), if_neg (show ¬ (6 : Int32) = 3 by decide), if_neg (show ¬ (6 : Int32) = 4 by decide), if_neg (show ¬ (6 : Int32) = 5 by decide)]
    exact ag_ok H ((parts_to hR hx).symm)
  rw [if_neg c6]
  rw [if_pos ((in0_iff e6').mpr ?_)]
  · exact ag_no H d22
  · by_cases q : x2 < 0
    · exact Or.inl q
    · refine Or.inr (fun w => ?_)
      rw [i32_lt, i32_0] at q
      rw [i32_le, ii6] at w
      have : x2.toInt = 0 ∨ x2.toInt = 1 ∨ x2.toInt = 2 ∨ x2.toInt = 3 ∨ x2.toInt = 4 ∨ x2.toInt = 5 ∨ x2.toInt = 6 := by omega
      rcases this with t | t | t | t | t | t | t
      · exact c0 (i32_eq (by rw [t]; decide))
      · exact c1 (i32_eq (by rw [t]; decide))
      · exact c2 (i32_eq (by rw [t]; decide))
      · exact c3 (i32_eq (by rw [t]; decide))
      · exact c4 (i32_eq (by rw [t]; decide))
      · exact c5 (i32_eq (by rw [t]; decide))
      · exact c6 (i32_eq (by rw [t]; decide))
theorem ag_owed (H : PR T z mo) : AG T (m_X8_owed z x1 x2 x3 x4) (m_X9_owed mo x1 x2 x3 x4) ee := by
  have hR := H.2.1.1
  unfold m_X8_owed m_X9_owed
  rw [hold_eq, hold_eq, kind_eq, part_eq]
  by_cases c1 : m_X8_isHolder x1 = 0
  · rw [if_pos c1, if_pos c1]; exact ag_no H ee1
  rw [if_neg c1, if_neg c1]
  by_cases c2 : m_X8_isHolder x2 = 0
  · rw [if_pos c2, if_pos c2]; exact ag_no H ee1
  rw [if_neg c2, if_neg c2]
  by_cases c3 : m_X8_isKind x3 = 0
  · rw [if_pos c3, if_pos c3]; exact ag_no H ee1
  rw [if_neg c3, if_neg c3]
  by_cases c4 : m_X8_isPart x4 = 0
  · rw [if_pos c4, if_pos c4]; exact ag_no H ee1
  have i1 := hold_iv c1
  have i2 := hold_iv c2
  have i3 := kind_iv c3
  have i4 := part_iv c4
  rw [if_neg c4, if_neg c4, dIx_m i1 i2 i3 i4, betw_eq i1 i2 i3 i4, hR.2.2.1 _ (dIx_lt i1 i2 i3 i4)]
  exact ag_ok H rfl
theorem ag_core (H : PR T z mo) : AG T (m_X8_core z x1 x2 x3) (m_X9_core mo x1 x2 x3) ed := by
  have hR := H.2.1.1
  have hr := H.2.1.2.1
  have ok := hR.ok hr
  unfold m_X8_core m_X9_core
  rw [hold_eq]
  by_cases c1 : m_X8_isHolder x1 = 0
  · rw [if_pos c1, if_pos c1]; exact ag_no H d11
  rw [if_neg c1, if_neg c1]
  by_cases c2 : x2 < 0
  · rw [if_pos c2, if_pos c2]; exact ag_no H d22
  rw [if_neg c2, if_neg c2]
  by_cases c3 : x3 < 0
  · rw [if_pos c3, if_pos ((in0_iff e1').mpr (Or.inl c3))]; exact ag_no H d22
  rw [if_neg c3]
  by_cases c4 : x3 ≤ 1
  case neg => rw [if_neg c4, if_pos ((in0_iff e1').mpr (Or.inr c4))]; exact ag_no H d22
  rw [if_pos c4, if_neg (fun e => ((in0_iff e1').mp e).elim c3 (fun q => q c4))]
  have hx := hold_iv c1
  have hX := iv_tnc (n := 5) hx (by decide)
  obtain ⟨b1, b2⟩ := hR.2.1 _ hX
  have c6 := ok.2 _ hX
  rw [ix_cores hx, b1]
  rw [i32_lt, i32_0] at c2 c3
  rw [i32_le, i32_1] at c4
  have x3c : x3 = 0 ∨ x3 = 1 := by
    have q : x3.toInt = 0 ∨ x3.toInt = 1 := by omega
    rcases q with q | q
    · exact Or.inl (i32_eq (by rw [q]; decide))
    · exact Or.inr (i32_eq (by rw [q]; decide))
  by_cases c5 : cC (sC (pN z)) x1.toNatClampNeg ≤ x2
  · have ow : m_X0_owes (sC (pN z)) x1 x2 = 0 := by
      unfold m_X0_owes
      rw [if_neg c1, if_neg (show ¬ x2 < 0 by rw [i32_lt, i32_0]; exact c2), if_pos c5]
    have k1 : m_X0_kindOf (sC (pN z)) x1 x2 = -1 := by unfold m_X0_kindOf; rw [if_pos ow]
    have k2 : m_X0_dueOf (sC (pN z)) x1 x2 = -1 := by unfold m_X0_dueOf; rw [if_pos ow]
    rw [if_pos c5, k1, k2]
    rcases x3c with q | q
    · rw [if_pos q]; exact ag_ok H rfl
    · rw [if_neg (by rw [q]; decide)]; exact ag_ok H rfl
  · rw [if_neg c5]
    rw [i32_le] at c5
    have hk : iv 0 5 x2 := ⟨by omega, by omega⟩
    have ow := owes_nz (k := x2) ok.2 hx (by omega) (by omega)
    have b3 := b2 x2.toNatClampNeg (by rw [tnc_d x2, tnc_d (cC (sC (pN z)) x1.toNatClampNeg)]; omega)
    have g1 := dl_hj (iv_coresAt hx) hk
    have g2 := dl_top (iv_coresAt hx) hk
    have g0 := (iv_coresAt hx).1
    have s1 := ix_slot hx iv_p1 hk
    rw [kn1] at s1
    have t0 : ((m_X9_coresAt x1 + 1) + 2 * x2).toInt = 318 + 13 * x1.toNatClampNeg + 1 + 2 * x2.toNatClampNeg := by
      rw [tnc_d (m_X9_coresAt x1 + 1 + 2 * x2)] at s1
      omega
    rcases x3c with q | q
    · subst q
      rw [if_pos rfl, Int32.add_zero, s1, b3.1]
      refine ag_ok H ?_
      unfold m_X0_kindOf
      rw [if_neg ow, (core_ix hx hk).1]
    · subst q
      have t1 : ((m_X9_coresAt x1 + 1) + 2 * x2 + 1).toNatClampNeg = 318 + 13 * x1.toNatClampNeg + 2 + 2 * x2.toNatClampNeg := by
        rw [tnc_d, i32_add (by rw [i32_1]; omega) (by rw [i32_1]; omega), t0, i32_1]
        omega
      rw [if_neg (show ¬ (1 : Int32) = 0 by decide), t1, b3.2]
      refine ag_ok H ?_
      unfold m_X0_dueOf
      rw [if_neg ow, (core_ix hx hk).1]
theorem ag_setting (H : PR T z mo) : AG T (m_X8_setting z x1) (m_X9_setting mo x1) ec := by
  have hR := H.2.1.1
  unfold m_X8_setting m_X9_setting
  by_cases c : m_X8_isSetting x1 = 0
  · rw [if_pos c, if_pos ((sett_eq x1).mpr c)]; exact ag_no H c21
  · have s3 := hs_isSetting c
    have ix : ((2 : Int32) + x1).toNatClampNeg = 2 + x1.toNatClampNeg := by
      rw [tnc_d, tnc_d, i32_add (by rw [ii2]; omega) (by rw [ii2]; omega), ii2]
      omega
    rw [if_neg c, if_neg (fun e => c ((sett_eq x1).mp e)), ix]
    exact ag_ok H (hR.2.2.2.2.1 _ (by rw [tnc_d]; omega)).symm
theorem ag_complete (H : PR T z mo) : AG T (m_X8_complete z x1 x2) (m_X9_complete mo x1 x2) ee := by
  unfold m_X8_complete m_X9_complete
  rw [hold_eq, kind_eq]
  by_cases c1 : m_X8_isHolder x1 = 0
  · rw [if_pos c1, if_pos c1]; exact ag_no H ee1
  rw [if_neg c1, if_neg c1]
  by_cases c2 : m_X8_isKind x2 = 0
  · rw [if_pos c2, if_pos c2]; exact ag_no H ee1
  rw [if_neg c2, if_neg c2]
  exact ag_ok H (complete_eq H.2.1.1 H.2.1.2.1).1.symm
theorem ag_takings (H : PR T z mo) : AG T (m_X8_takings z x1 x2) (m_X9_takings mo x1 x2) ee := by
  unfold m_X8_takings m_X9_takings
  rw [hold_eq, kind_eq, takings_eq H.2.1.1 H.2.1.2.1]
  by_cases c1 : m_X8_isHolder x1 = 0
  · rw [if_pos c1, if_pos c1]; exact ag_no H ee1
  rw [if_neg c1, if_neg c1]
  by_cases c2 : m_X8_isKind x2 = 0
  · rw [if_pos c2, if_pos c2]; exact ag_no H ee1
  rw [if_neg c2, if_neg c2]
  exact ag_ok H rfl
theorem ag_bill (H : PR T z mo) : AG T (m_X8_bill z x1 x2) (m_X9_bill mo x1 x2) ed := by
  have ok := H.2.1.1.ok H.2.1.2.1
  unfold m_X8_bill m_X9_bill
  rw [hold_eq, bill_L H.2.1.1 H.2.1.2.1 100 0 0 (by decide) (fuel100 ok.1)]
  by_cases c1 : m_X8_isHolder x1 = 0
  · rw [if_pos c1, if_pos c1]; exact ag_no H d11
  rw [if_neg c1, if_neg c1]
  by_cases c2 : x2 < 0
  · rw [if_pos c2, if_pos ((in0_iff e99').mpr (Or.inl c2))]; exact ag_no H d22
  rw [if_neg c2]
  by_cases c3 : x2 ≤ 99
  · rw [if_pos c3, if_neg (fun e => ((in0_iff e99').mp e).elim c2 (fun q => q c3))]
    exact ag_ok H rfl
  · rw [if_neg c3, if_pos ((in0_iff e99').mpr (Or.inr c3))]; exact ag_no H d22
theorem ag_firstDue (H : PR T z mo) : PR (T + 99) (m_X8_firstDue z).2 (m_X9_firstDue mo).2 ∧ (m_X8_firstDue z).1 = (m_X9_firstDue mo).1 := by
  have ok := H.2.1.1.ok H.2.1.2.1
  have e : m_X9_firstDue mo = (m_X7_dueFirst (sU (pN z)), mR' mo 0) := first_L H.2.1.1 H.2.1.2.1 100 (-1) 0 (by decide) (Or.inl rfl) (fuel100 ok.1)
  rw [e]
  exact ⟨H.r 0, rfl⟩
theorem ag_cheapest (H : PR T z mo) : AG T (m_X8_cheapest z x1 x2) (m_X9_cheapest mo x1 x2) ee := by
  unfold m_X8_cheapest m_X9_cheapest
  rw [hold_eq, kind_eq, cheap_eq H.2.1.1 H.2.1.2.1]
  by_cases c1 : m_X8_isHolder x1 = 0
  · rw [if_pos c1, if_pos c1]; exact ag_no H ee1
  rw [if_neg c1, if_neg c1]
  by_cases c2 : m_X8_isKind x2 = 0
  · rw [if_pos c2, if_pos c2]; exact ag_no H ee1
  rw [if_neg c2, if_neg c2]
  exact ag_ok H rfl
theorem ag_inDebt (H : PR T z mo) (hT : T ≤ 1000000) : PR (T + 99) (m_X8_inDebt z).2 (m_X9_inDebt mo).2 ∧ (m_X8_inDebt z).1 = (m_X9_inDebt mo).1 := by
  obtain ⟨k1, k2, W, k3⟩ := inDebt_eq H.2.1.1 H.2.1.2.1 H.2.1.2.2 hT
  rw [k2, k3]
  exact ⟨H.r 0, k1.symm⟩
theorem ag_runScript {s : Int64} (H : PR T z mo) (hT : T ≤ 1000000) : AG T (m_X8_runScript z x1 s) (m_X9_runScript mo x1 s) ec := by
  rcases runScript_eq (x1 := x1) (s := s) H.2.1.1 H.2.1.2.1 H.2.1.2.2 hT with ⟨h1, h2, h3⟩ | ⟨h1, h2, ⟨st, h3⟩, W, h4⟩
  · refine ⟨?_, Or.inr ⟨_, c21, h1, by rw [h2]; rfl⟩⟩
    rw [h2, h3]
    exact H.r 1
  · refine ⟨?_, Or.inl ⟨h1, by rw [h4]; rfl, h2⟩⟩
    rw [h3, h4]
    exact H.rw 0 W
theorem ag_simulate {s : Int64} (H : PR T z mo) (hT : T ≤ 1000000) : AG T (m_X8_simulate z s x2) (m_X9_simulate mo s x2) ec := by
  rcases simulate_eq (x1 := s) (x2 := x2) H.2.1.1 H.2.1.2.1 H.2.1.2.2 hT with ⟨h1, h2, h3⟩ | ⟨h1, h2, ⟨st, h3⟩, W, h4⟩
  · refine ⟨?_, Or.inr ⟨_, c21, h1, by rw [h2]; rfl⟩⟩
    rw [h2, h3]
    exact H.r 1
  · refine ⟨?_, Or.inl ⟨h1, by rw [h4]; rfl, h2⟩⟩
    rw [h3, h4]
    exact H.rw 0 W
theorem slot_in (x : Int32) : (m_X9_in x.toInt64 0 1 = 0 ↔ m_X8_isSlot x = 0) := by
  rw [in0_iff e1']
  unfold m_X8_isSlot
  by_cases c : x < 0
  · rw [if_pos c]; exact ⟨fun _ => rfl, fun _ => Or.inl c⟩
  · rw [if_neg c]
    by_cases d : (2 : Int32) ≤ x
    · rw [if_pos d]
      rw [i32_le, ii2] at d
      exact ⟨fun _ => rfl, fun _ => Or.inr (by rw [i32_le, i32_1]; omega)⟩
    · rw [if_neg d]
      rw [i32_le, ii2] at d
      refine ⟨fun q => q.elim (fun q => absurd q c) (fun q => absurd (by rw [i32_le, i32_1]; omega) q), fun q => absurd q (by decide)⟩
theorem cp_seg {f g : Nat → Int32} (x : Int32) (hx : x = 0 ∨ x = 1) : (∀ j : Nat, j < 383 → m_X9_copyState f g 0 (383 * x) (383 * x.toNatClampNeg + j) = f j) ∧ (∀ j : Nat, (j < 383 * x.toNatClampNeg ∨ 383 * x.toNatClampNeg + 383 ≤ j) → m_X9_copyState f g 0 (383 * x) j = g j) ∧ (∀ j : Nat, j < 383 → m_X9_copyState f g (383 * x) 0 j = f (383 * x.toNatClampNeg + j)) := by
  have ix : iv 0 13 x := by rcases hx with q | q <;> subst q <;> exact ⟨by decide, by decide⟩
  obtain ⟨i1, i2⟩ := m383 ix
  refine ⟨fun j hj => ?_, fun j hj => ?_, fun j hj => ?_⟩
  · rw [cp_eq iv00 i1, i2, kn0]
    show (if 383 * x.toNatClampNeg ≤ 383 * x.toNatClampNeg + j ∧ 383 * x.toNatClampNeg + j < 383 * x.toNatClampNeg + 383 then f (0 + (383 * x.toNatClampNeg + j - 383 * x.toNatClampNeg)) else _) = _
    rw [if_pos (by omega), show 0 + (383 * x.toNatClampNeg + j - 383 * x.toNatClampNeg) = j by omega]
  · rw [cp_eq iv00 i1, i2, kn0]
    show (if 383 * x.toNatClampNeg ≤ j ∧ j < 383 * x.toNatClampNeg + 383 then _ else g j) = _
    rw [if_neg (by omega)]
  · rw [cp_eq i1 iv00, i2, kn0]
    show (if 0 ≤ j ∧ j < 0 + 383 then f (383 * x.toNatClampNeg + (j - 0)) else _) = _
    rw [if_pos (by omega), Nat.sub_zero]
theorem ag_save (H : PR T z mo) : AG T (m_X8_save z x1) (m_X9_save mo x1) ee := by
  have h := H.up (T2 := T + 99) (by omega)
  have hR := h.2.1.1
  have hr := h.2.1.2.1
  have hB := h.2.1.2.2
  obtain ⟨⟨v0, v1⟩, s0, s1⟩ := h.2.2.2
  unfold m_X8_save m_X9_save
  by_cases c : m_X8_isSlot x1 = 0
  · rw [if_pos c, if_pos ((slot_in x1).mpr c)]; exact ag_no H ee1
  rw [if_neg c, if_neg (fun e => c ((slot_in x1).mp e)), kn1]
  have sx := slot01 c
  obtain ⟨p1, p2, -⟩ := cp_seg (f := mN mo) (g := mK mo) x1 sx
  generalize m_X9_copyState (mN mo) (mK mo) 0 (383 * x1) = K at *
  rcases sx with q | q
  · subst q
    rw [kn0] at p1 p2 ⊢
    rw [if_pos rfl]
    refine ⟨⟨h.1, h.2.1, h.2.2.1, ⟨⟨?_, ?_⟩, fun _ => ?_, fun w => ?_⟩⟩, Or.inl ⟨rfl, rfl, hR.1.1.symm⟩⟩
    · show upd (pV z) 0 1 0 = upd (mI mo) 0 1 0
      rw [pk_us, pk_us]
    · show upd (pV z) 0 1 1 = upd (mI mo) 0 1 1
      rw [pk_un (by omega), pk_un (by omega)]; exact v1
    · show RS (pN z) (sg K 0) ∧ rOK (sg K 0) ∧ BD (T + 99) (sg K 0)
      exact ⟨hR.low hr (fun j hj => p1 j hj), rok_low hr (fun j hj => p1 j hj), hB.low (fun j hj => p1 j hj)⟩
    · have w2 : ¬ mI mo 1 = 0 := fun e => w (by show upd (mI mo) 0 1 1 = 0; rw [pk_un (by omega)]; exact e)
      obtain ⟨u1, u2, u3⟩ := s1 w2
      have e : ∀ j, j < 383 → sg K 383 j = sg (mK mo) 383 j := fun j hj => p2 (383 + j) (by omega)
      exact ⟨u1.low u2 e, rok_low u2 e, u3.low e⟩
  · subst q
    rw [kn1] at p1 p2 ⊢
    rw [if_neg (show ¬ (1 : Int32) = 0 by decide)]
    refine ⟨⟨h.1, h.2.1, h.2.2.1, ⟨⟨?_, ?_⟩, fun w => ?_, fun _ => ?_⟩⟩, Or.inl ⟨rfl, rfl, hR.1.1.symm⟩⟩
    · show upd (pV z) 1 1 0 = upd (mI mo) 1 1 0
      rw [pk_un (by omega), pk_un (by omega)]; exact v0
    · show upd (pV z) 1 1 1 = upd (mI mo) 1 1 1
      rw [pk_us, pk_us]
    · have w2 : ¬ mI mo 0 = 0 := fun e => w (by show upd (mI mo) 1 1 0 = 0; rw [pk_un (by omega)]; exact e)
      obtain ⟨u1, u2, u3⟩ := s0 w2
      have e : ∀ j, j < 383 → sg K 0 j = sg (mK mo) 0 j := fun j hj => p2 (0 + j) (by omega)
      exact ⟨u1.low u2 e, rok_low u2 e, u3.low e⟩
    · have e : ∀ j, j < 383 → sg K 383 j = mN mo j := fun j hj => p1 j hj
      exact ⟨hR.low hr e, rok_low hr e, hB.low e⟩
theorem ag_restore (H : PR T z mo) : AG T (m_X8_restore z x1) (m_X9_restore mo x1) eb := by
  have h := H.up (T2 := T + 99) (by omega)
  obtain ⟨⟨v0, v1⟩, s0, s1⟩ := h.2.2.2
  unfold m_X8_restore m_X9_restore
  by_cases c : m_X8_isSlot x1 = 0
  · rw [if_pos c, if_pos ((slot_in x1).mpr c)]; exact ag_no H eb1
  rw [if_neg c, if_neg (fun e => c ((slot_in x1).mp e)), kn1]
  have sx := slot01 c
  obtain ⟨-, -, p3⟩ := cp_seg (f := mK mo) (g := mN mo) x1 sx
  generalize m_X9_copyState (mK mo) (mN mo) (383 * x1) 0 = N at *
  rcases sx with q | q
  · subst q
    rw [kn0] at p3 ⊢
    rw [v0]
    by_cases d : mI mo 0 = 0
    · rw [if_pos d, if_pos d]; exact ag_no H eb2
    rw [if_neg d, if_neg d, if_pos rfl]
    obtain ⟨u1, u2, u3⟩ := s0 d
    have e : ∀ j, j < 383 → N j = sg (mK mo) 0 j := fun j hj => p3 j hj
    have w := u1.low u2 e
    exact ⟨⟨h.1, ⟨w, rok_low u2 e, u3.low e⟩, HR.none h.2.2.1.1 rfl, h.2.2.2⟩, Or.inl ⟨rfl, rfl, w.1.1.symm⟩⟩
  · subst q
    rw [kn1] at p3 ⊢
    rw [v1]
    by_cases d : mI mo 1 = 0
    · rw [if_pos d, if_pos d]; exact ag_no H eb2
    rw [if_neg d, if_neg d, if_neg (show ¬ (1 : Int32) = 0 by decide)]
    obtain ⟨u1, u2, u3⟩ := s1 d
    have e : ∀ j, j < 383 → N j = sg (mK mo) 383 j := fun j hj => p3 j hj
    have w := u1.low u2 e
    exact ⟨⟨h.1, ⟨w, rok_low u2 e, u3.low e⟩, HR.none h.2.2.1.1 rfl, h.2.2.2⟩, Or.inl ⟨rfl, rfl, w.1.1.symm⟩⟩
end AGQ
