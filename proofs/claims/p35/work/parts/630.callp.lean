/-! p35: the law's call -/
def callP (z : SpT) (k : Nat) (a b c : Int32) : Nat × Int32 × SpT := match k with
  | 0 => m_X8_append z a
  | 1 => m_X8_load z
  | 2 => m_X8_about z a
  | 3 => m_X8_unit z a b
  | 4 => m_X8_holder z a b
  | 5 => m_X8_core z a b c
  | 6 => m_X8_setting z a
  | 7 => m_X8_come z a b c
  | 8 => m_X8_lend z a b c
  | 9 => m_X8_bring z a
  | 10 => m_X8_exchange z a b
  | 11 => m_X8_advance z a b c
  | 12 => m_X8_deliver z a
  | 13 => m_X8_take z a b c
  | 14 => m_X8_buy z a b
  | 15 => m_X8_days z a
  | 16 => m_X8_set z a b
  | 17 => m_X8_undo z
  | 18 => m_X8_complete z a b
  | 19 => m_X8_takings z a b
  | 20 => m_X8_bill z a b
  | 21 => m_X8_cheapest z a b
  | 22 => m_X8_save z a
  | _ => m_X8_restore z a
def isQ (k : Nat) : Prop := k = 2 ∨ k = 3 ∨ k = 4 ∨ k = 5 ∨ k = 6 ∨ k = 18 ∨ k = 19 ∨ k = 20 ∨ k = 21
section CP
variable {z z1 z2 : SpT} {T : Int} {a b c : Int32}
theorem call_lt {P : Nat → Prop} (h : P 0 ∧ P 1 ∧ P 2 ∧ P 3 ∧ P 4 ∧ P 5 ∧ P 6 ∧ P 7 ∧ P 8 ∧ P 9 ∧ P 10 ∧ P 11 ∧ P 12 ∧ P 13 ∧ P 14 ∧ P 15 ∧ P 16 ∧ P 17 ∧ P 18 ∧ P 19 ∧ P 20 ∧ P 21 ∧ P 22 ∧ P 23) : ∀ k : Nat, k < 24 → P k := by
  obtain ⟨q0, q1, q2, q3, q4, q5, q6, q7, q8, q9, q10, q11, q12, q13, q14, q15, q16, q17, q18, q19, q20, q21, q22, q23⟩ := h
  intro k hk
  match k, hk with
  | 0, _ => exact q0
  | 1, _ => exact q1
  | 2, _ => exact q2
  | 3, _ => exact q3
  | 4, _ => exact q4
  | 5, _ => exact q5
  | 6, _ => exact q6
  | 7, _ => exact q7
  | 8, _ => exact q8
  | 9, _ => exact q9
  | 10, _ => exact q10
  | 11, _ => exact q11
  | 12, _ => exact q12
  | 13, _ => exact q13
  | 14, _ => exact q14
  | 15, _ => exact q15
  | 16, _ => exact q16
  | 17, _ => exact q17
  | 18, _ => exact q18
  | 19, _ => exact q19
  | 20, _ => exact q20
  | 21, _ => exact q21
  | 22, _ => exact q22
  | 23, _ => exact q23
  | n9 + 24, h9 => exact absurd h9 (by omega)
theorem sim_call (h : SIM T z1 z2) (h0 : 100000 ≤ T) (h1 : T ≤ 1000000) : ∀ k : Nat, k < 24 → kV (callP z1 k a b c) = kV (callP z2 k a b c) ∧ SIM (T + 99) (callP z1 k a b c).2.2 (callP z2 k a b c).2.2 := by
  obtain ⟨mo, A, B⟩ := h
  exact call_lt ⟨ag_kV (ag_append A) (ag_append B) gES_eg, ag_kV (ag_load A h0) (ag_load B h0) gES_ef, ag_kV (ag_about A) (ag_about B) gES_ec, ag_kV (ag_unit A) (ag_unit B) gES_ed, ag_kV (ag_holder A) (ag_holder B) gES_ed, ag_kV (ag_core A) (ag_core B) gES_ed, ag_kV (ag_setting A) (ag_setting B) gES_ec, ag_kV (ag_come A (by omega)) (ag_come B (by omega)) gES_ea, ag_kV (ag_lend A (by omega)) (ag_lend B (by omega)) gES_ea, ag_kV (ag_bring A (by omega)) (ag_bring B (by omega)) gES_eb, ag_kV (ag_exchange A (by omega)) (ag_exchange B (by omega)) gES_eb, ag_kV (ag_advance A (by omega)) (ag_advance B (by omega)) gES_ea, ag_kV (ag_deliver A (by omega)) (ag_deliver B (by omega)) gES_eb, ag_kV (ag_take A (by omega)) (ag_take B (by omega)) gES_eb, ag_kV (ag_buy A (by omega)) (ag_buy B (by omega)) gES_eb, ag_kV (ag_days A (by omega)) (ag_days B (by omega)) gES_ec, ag_kV (ag_set A) (ag_set B) gES_ec, ag_kV (ag_undo A) (ag_undo B) gES_ef, ag_kV (ag_complete A) (ag_complete B) gES_ee, ag_kV (ag_takings A) (ag_takings B) gES_ee, ag_kV (ag_bill A) (ag_bill B) gES_ed, ag_kV (ag_cheapest A) (ag_cheapest B) gES_ee, ag_kV (ag_save A) (ag_save B) gES_ee, ag_kV (ag_restore A) (ag_restore B) gES_eb⟩
theorem call_vis (h : OKz z) : ∀ k : Nat, k < 24 → (¬ (callP z k a b c).1 = 0) ∨ isQ k → VIS z (callP z k a b c).2.2 := call_lt ⟨(fun q => vi_append (q.elim id (fun e => absurd e (by unfold isQ; omega)))), (fun q => vi_load (q.elim id (fun e => absurd e (by unfold isQ; omega)))), (fun _ => by rw [show (callP z 2 a b c).2.2 = z from sm_about]; exact VIS.rf), (fun _ => by rw [show (callP z 3 a b c).2.2 = z from sm_unit]; exact VIS.rf), (fun _ => by rw [show (callP z 4 a b c).2.2 = z from sm_holder]; exact VIS.rf), (fun _ => by rw [show (callP z 5 a b c).2.2 = z from sm_core]; exact VIS.rf), (fun _ => by rw [show (callP z 6 a b c).2.2 = z from sm_setting]; exact VIS.rf), (fun q => vi_come h (q.elim id (fun e => absurd e (by unfold isQ; omega)))), (fun q => vi_lend h (q.elim id (fun e => absurd e (by unfold isQ; omega)))), (fun q => vi_bring h (q.elim id (fun e => absurd e (by unfold isQ; omega)))), (fun q => vi_exchange h (q.elim id (fun e => absurd e (by unfold isQ; omega)))), (fun q => vi_advance h (q.elim id (fun e => absurd e (by unfold isQ; omega)))), (fun q => vi_deliver h (q.elim id (fun e => absurd e (by unfold isQ; omega)))), (fun q => vi_take h (q.elim id (fun e => absurd e (by unfold isQ; omega)))), (fun q => vi_buy h (q.elim id (fun e => absurd e (by unfold isQ; omega)))), (fun q => vi_days h (q.elim id (fun e => absurd e (by unfold isQ; omega)))), (fun q => vi_set h (q.elim id (fun e => absurd e (by unfold isQ; omega)))), (fun q => vi_undo (q.elim id (fun e => absurd e (by unfold isQ; omega)))), (fun _ => by rw [show (callP z 18 a b c).2.2 = z from sm_complete]; exact VIS.rf), (fun _ => by rw [show (callP z 19 a b c).2.2 = z from sm_takings]; exact VIS.rf), (fun _ => by rw [show (callP z 20 a b c).2.2 = z from sm_bill]; exact VIS.rf), (fun _ => by rw [show (callP z 21 a b c).2.2 = z from sm_cheapest]; exact VIS.rf), (fun q => vi_save (q.elim id (fun e => absurd e (by unfold isQ; omega)))), (fun q => vi_restore (q.elim id (fun e => absurd e (by unfold isQ; omega))))⟩
theorem gs_append {x1 : Int32} (g : GS T z) : GS T (m_X8_append z x1).2.2 := by
  unfold m_X8_append
  repeat' split
  all_goals exact g
theorem gs_call (h : OKz z) (g : GS T z) (h0 : 100000 ≤ T) (h1 : T ≤ 1000000) : ∀ k : Nat, k < 24 → GS (T + 99) (callP z k a b c).2.2 := call_lt ⟨(gs_append g).up (by omega), (gs_load g (by omega)).up (by omega), (by rw [show (callP z 2 a b c).2.2 = z from sm_about]; exact g.up (by omega)), (by rw [show (callP z 3 a b c).2.2 = z from sm_unit]; exact g.up (by omega)), (by rw [show (callP z 4 a b c).2.2 = z from sm_holder]; exact g.up (by omega)), (by rw [show (callP z 5 a b c).2.2 = z from sm_core]; exact g.up (by omega)), (by rw [show (callP z 6 a b c).2.2 = z from sm_setting]; exact g.up (by omega)), (gs_come g h (by omega)).up (by omega), (gs_lend g h (by omega)).up (by omega), (gs_bring g h (by omega)).up (by omega), (gs_exchange g h (by omega)).up (by omega), (gs_advance g h (by omega)).up (by omega), (gs_deliver g h (by omega)).up (by omega), (gs_take g h (by omega)).up (by omega), (gs_buy g h (by omega)).up (by omega), (gs_days g h (by omega)).up (by omega), (gs_set g h (by omega)).up (by omega), (gs_undo g h.hi).up (by omega), (by rw [show (callP z 18 a b c).2.2 = z from sm_complete]; exact g.up (by omega)), (by rw [show (callP z 19 a b c).2.2 = z from sm_takings]; exact g.up (by omega)), (by rw [show (callP z 20 a b c).2.2 = z from sm_bill]; exact g.up (by omega)), (by rw [show (callP z 21 a b c).2.2 = z from sm_cheapest]; exact g.up (by omega)), (gs_save g).up (by omega), (gs_restore g).up (by omega)⟩
end CP
