/-! the start: the new pair -/
theorem RS_st00 (r : Nat → Int32) : RS st00 (m_X9_begin r) := by
  refine ⟨⟨?_, fun u hu => absurd hu (Nat.not_lt_zero u)⟩, fun h hh => ⟨?_, fun k hk => absurd hk (Nat.not_lt_zero k)⟩, fun i hi => ?_, fun h hh => ?_, fun i hi => ?_, ?_, ?_, ?_, ?_⟩
  · rw [bg_0 _ _ (by omega) (by omega)]; rfl
  · rw [bg_0 _ _ (by omega) (by omega)]; rfl
  · rw [bg_0 _ _ (by omega) (by omega)]; rfl
  · rw [bg_0 _ _ (by omega) (by omega)]; rfl
  · rcases (show i = 0 ∨ i = 1 ∨ i = 2 by omega) with rfl | rfl | rfl
    · rw [bg_at _ _ (by omega)]; rfl
    · rw [bg_at _ _ (by omega)]; rfl
    · rw [bg_at _ _ (by omega)]; rfl
  · rw [bg_0 _ _ (by omega) (by omega)]; rfl
  · rw [bg_0 _ _ (by omega) (by omega)]; rfl
  · rw [bg_0 _ _ (by omega) (by omega)]; rfl
  · rw [bg_0 _ _ (by omega) (by omega)]; rfl
theorem bd_b (r : Nat → Int32) : BD 100000 (m_X9_begin r) := by
  have g := BD_begin r
  generalize m_X9_begin r = N at *
  exact BD_up g (by decide)
theorem pr_start {r : Nat → Int32} {mo : MoT} (e : mN mo = m_X9_begin r) (e1 : mT mo = fun _ => 0) (e2 : mZ mo = 0) (e3 : mA mo = 0) (e4 : mI mo = fun _ => 0) : PR 100000 sp0 mo := by
  refine ⟨⟨e1.symm, e2.symm, by rw [e2]; exact iv_wide iv_0 (by decide)⟩, ⟨?_, ?_, ?_⟩, ⟨⟨iv_wide iv_0 (by decide), iv_wide iv_0 (by decide)⟩, e3.symm, fun j hj => absurd hj (Nat.not_lt_zero j)⟩, ⟨⟨?_, ?_⟩, fun q => absurd ?_ q, fun q => absurd ?_ q⟩⟩
  · rw [e]; exact RS_st00 r
  · rw [e]; exact bg_rok r
  · rw [e]; exact bd_b r
  · rw [e4]; rfl
  · rw [e4]; rfl
  · rw [e4]
  · rw [e4]
theorem pr_g {r N : Nat → Int32} (e : N = m_X9_begin r) : PR 100000 sp0 (0, (fun _ => 0), 0, N, (fun _ => 0), (fun _ => 0), 0, (fun _ => 0), (fun _ => 0), 0, 0) := pr_start (r := r) e rfl rfl rfl rfl
theorem pr_0 : PR 100000 sp0 mo0 := by
  unfold mo0
  exact pr_g rfl
theorem PR.hi {T : Int} {z : SpT} {mo : MoT} (H : PR T z mo) : hiOK (pH z) := H.2.2.1.1
theorem PR.st {T : Int} {z : SpT} {mo : MoT} (H : PR T z mo) : stOK (pN z) := H.2.1.1.ok H.2.1.2.1
theorem PR.ro {T : Int} {z : SpT} {mo : MoT} (H : PR T z mo) : rOK (mN mo) := H.2.1.2.1
theorem PR.ac {T : Int} {z : SpT} {mo : MoT} (H : PR T z mo) : iv 0 14 (mA mo) := by rw [← H.2.2.1.2.1]; exact H.2.2.1.1.2
theorem PR.tl {T : Int} {z : SpT} {mo : MoT} (H : PR T z mo) : iv 0 120 (tL (pT z)) := by rw [H.1.2.1]; exact H.1.2.2
theorem PR.mz {T : Int} {z : SpT} {mo : MoT} (H : PR T z mo) : iv 0 120 (mZ mo) := H.1.2.2
