/-! scripts: class beside reference -/
theorem i32_div {x c : Int32} {C : Int} (hx : 0 ≤ x.toInt) (hc : c.toInt = C) (h : 0 < C) : (x / c).toInt = x.toInt / C := by
  rw [Int32.toInt_div, hc, Int.tdiv_eq_ediv_of_nonneg hx]
  have h1 := i32_hi x
  have h2 : x.toInt / C ≤ x.toInt := Int.ediv_le_self _ hx
  have h3 : 0 ≤ x.toInt / C := Int.ediv_nonneg hx (Int.le_of_lt h)
  exact bmod_of (by omega) (by omega)
theorem i32_mod {x c : Int32} {C : Int} (hx : 0 ≤ x.toInt) (hc : c.toInt = C) (h : 0 < C) : (x - (x / c) * c).toInt = x.toInt % C := by
  have d := i32_div hx hc h
  have h1 := i32_hi x
  have h3 : 0 ≤ x.toInt / C := Int.ediv_nonneg hx (Int.le_of_lt h)
  have h4 : x.toInt / C * C ≤ x.toInt := Int.ediv_mul_le _ (Int.ne_of_gt h)
  have h6 : 0 ≤ x.toInt / C * C := Int.mul_nonneg h3 (Int.le_of_lt h)
  have m : ((x / c) * c).toInt = x.toInt / C * C := by rw [i32_mul (by rw [d, hc]; omega) (by rw [d, hc]; omega), d, hc]
  rw [i32_sub (by rw [m]; omega) (by rw [m]; omega), m, Int.emod_def, Int.mul_comm]
theorem j10 : (10 : Int32).toInt = 10 := by decide
theorem j100 : (100 : Int32).toInt = 100 := by decide
theorem j1000 : (1000 : Int32).toInt = 1000 := by decide
theorem j10000 : (10000 : Int32).toInt = 10000 := by decide
theorem j100000 : (100000 : Int32).toInt = 100000 := by decide
def sucF (st : StT) (hw zb s23 f4 f56 f6 f45 f2 f345 : Int32) : Int32 × StT := if hw = (1 : Int32) then (if (m_X5_tryLend st s23 f4 f56).1 < (0 : Int32) then ((0 : Int32), (m_X5_tryLend st s23 f4 f56).2) else ((1 : Int32), (m_X5_tryLend st s23 f4 f56).2)) else (if hw = (2 : Int32) then (if zb = (0 : Int32) then if (m_X5_tryBring st f56).1 < (0 : Int32) then ((0 : Int32), (m_X5_tryBring st f56).2) else ((1 : Int32), (m_X5_tryBring st f56).2) else ((0 : Int32), st)) else (if hw = (3 : Int32) then (if f6 = (0 : Int32) then if (m_X5_tryExchange st s23 f45).1 < (0 : Int32) then ((0 : Int32), (m_X5_tryExchange st s23 f45).2) else ((1 : Int32), (m_X5_tryExchange st s23 f45).2) else ((0 : Int32), st)) else (if hw = (4 : Int32) then (if (m_X5_tryTake st s23 f45 f6).1 < (0 : Int32) then ((0 : Int32), (m_X5_tryTake st s23 f45 f6).2) else ((1 : Int32), (m_X5_tryTake st s23 f45 f6).2)) else (if hw = (5 : Int32) then (if zb = (0 : Int32) then if (m_X5_tryDays st f56).1 < (0 : Int32) then ((0 : Int32), (m_X5_tryDays st f56).2) else ((1 : Int32), (m_X5_tryDays st f56).2) else ((0 : Int32), st)) else (if hw = (6 : Int32) then (if f56 = (0 : Int32) then if (m_X5_tryBuy st s23 f4).1 < (0 : Int32) then ((0 : Int32), (m_X5_tryBuy st s23 f4).2) else ((1 : Int32), (m_X5_tryBuy st s23 f4).2) else ((0 : Int32), st)) else (if hw = (7 : Int32) then (if f56 = (0 : Int32) then (if m_X3_isAt st s23 f4 = (0 : Int32) then ((0 : Int32), st) else ((1 : Int32), st)) else ((0 : Int32), st)) else (if hw = (8 : Int32) then (if f6 = (0 : Int32) then (if m_X3_hasMoney st f2 (f345 - (500 : Int32)) = (0 : Int32) then ((0 : Int32), st) else ((1 : Int32), st)) else ((0 : Int32), st)) else (if hw = (9 : Int32) then (if zb = (0 : Int32) then (if m_X7_usableOnes (sU st) < f56 then ((0 : Int32), st) else ((1 : Int32), st)) else ((0 : Int32), st)) else (((0 : Int32), st))))))))))
theorem suc_eq (st : StT) (x1 : Int32) : m_X3_succeeds st x1 = sucF st (x1 / (100000 : Int32)) ((x1 / (100 : Int32)) - (((x1 / (100 : Int32)) / (1000 : Int32)) * (1000 : Int32))) ((x1 / (1000 : Int32)) - (((x1 / (1000 : Int32)) / (100 : Int32)) * (100 : Int32))) ((x1 / (100 : Int32)) - (((x1 / (100 : Int32)) / (10 : Int32)) * (10 : Int32))) (x1 - ((x1 / (100 : Int32)) * (100 : Int32))) (x1 - ((x1 / (10 : Int32)) * (10 : Int32))) ((x1 / (10 : Int32)) - (((x1 / (10 : Int32)) / (100 : Int32)) * (100 : Int32))) ((x1 / (10000 : Int32)) - (((x1 / (10000 : Int32)) / (10 : Int32)) * (10 : Int32))) ((x1 / (10 : Int32)) - (((x1 / (10 : Int32)) / (1000 : Int32)) * (1000 : Int32))) := by
  unfold m_X3_succeeds sucF
  generalize ((x1 / (100 : Int32)) - (((x1 / (100 : Int32)) / (1000 : Int32)) * (1000 : Int32))) = zb
  generalize ((x1 / (1000 : Int32)) - (((x1 / (1000 : Int32)) / (100 : Int32)) * (100 : Int32))) = s23
  generalize ((x1 / (10000 : Int32)) - (((x1 / (10000 : Int32)) / (10 : Int32)) * (10 : Int32))) = f2
  generalize ((x1 / (10 : Int32)) - (((x1 / (10 : Int32)) / (1000 : Int32)) * (1000 : Int32))) = f345
  generalize ((x1 / (100 : Int32)) - (((x1 / (100 : Int32)) / (10 : Int32)) * (10 : Int32))) = f4
  generalize ((x1 / (10 : Int32)) - (((x1 / (10 : Int32)) / (100 : Int32)) * (100 : Int32))) = f45
  generalize (x1 - ((x1 / (100 : Int32)) * (100 : Int32))) = f56
  generalize (x1 - ((x1 / (10 : Int32)) * (10 : Int32))) = f6
  generalize (x1 / (100000 : Int32)) = hw
  by_cases z : zb = 0
  · rw [if_pos z]
    by_cases h1 : hw = 1
    · rw [if_pos h1, if_pos h1]
    rw [if_neg h1, if_neg h1]
    by_cases h2 : hw = 2
    · rw [if_pos h2, if_pos h2, if_pos z]
    rw [if_neg h2, if_neg h2]
    by_cases h3 : hw = 3
    · rw [if_pos h3, if_pos h3]
    rw [if_neg h3, if_neg h3]
    by_cases h4 : hw = 4
    · rw [if_pos h4, if_pos h4]
    rw [if_neg h4, if_neg h4]
    by_cases h5 : hw = 5
    · rw [if_pos h5, if_pos h5, if_pos z]
    rw [if_neg h5, if_neg h5]
    by_cases h6 : hw = 6
    · rw [if_pos h6, if_pos h6]
    rw [if_neg h6, if_neg h6]
    by_cases h7 : hw = 7
    · rw [if_pos h7, if_pos h7]
    rw [if_neg h7, if_neg h7]
    by_cases h8 : hw = 8
    · rw [if_pos h8, if_pos h8]
    rw [if_neg h8, if_neg h8]
    by_cases h9 : hw = 9
    · rw [if_pos h9, if_pos h9, if_pos z]
    rw [if_neg h9, if_neg h9]
  · rw [if_neg z]
    by_cases h1 : hw = 1
    · rw [if_pos h1, if_pos h1]
    rw [if_neg h1, if_neg h1]
    by_cases h2 : hw = 2
    · rw [if_pos h2, if_pos h2, if_neg z]
    rw [if_neg h2, if_neg h2]
    by_cases h3 : hw = 3
    · rw [if_pos h3, if_pos h3]
    rw [if_neg h3, if_neg h3]
    by_cases h4 : hw = 4
    · rw [if_pos h4, if_pos h4]
    rw [if_neg h4, if_neg h4]
    by_cases h5 : hw = 5
    · rw [if_pos h5, if_pos h5, if_neg z]
    rw [if_neg h5, if_neg h5]
    by_cases h6 : hw = 6
    · rw [if_pos h6, if_pos h6]
    rw [if_neg h6, if_neg h6]
    by_cases h7 : hw = 7
    · rw [if_pos h7, if_pos h7]
    rw [if_neg h7, if_neg h7]
    by_cases h8 : hw = 8
    · rw [if_pos h8, if_pos h8]
    rw [if_neg h8, if_neg h8]
    by_cases h9 : hw = 9
    · rw [if_pos h9, if_pos h9, if_neg z]
    rw [if_neg h9, if_neg h9]
theorem dig {x : Int32} (h0 : 0 ≤ x.toInt) : (x / 100000).toInt = x.toInt / 100000 ∧ (x - (x / 100000) * 100000).toInt = x.toInt % 100000 := ⟨i32_div h0 j100000 (by decide), i32_mod h0 j100000 (by decide)⟩
/-- the digits of a group, taken by both -/
theorem digs {x v : Int32} (h0 : 0 ≤ x.toInt) (h1 : x.toInt < 1000000) (hv : v.toInt = x.toInt % 100000) :
    v / 1000 = ((x / (1000 : Int32)) - (((x / (1000 : Int32)) / (100 : Int32)) * (100 : Int32))) ∧ (v / 100) - ((v / 100) / 10) * 10 = ((x / (100 : Int32)) - (((x / (100 : Int32)) / (10 : Int32)) * (10 : Int32))) ∧ v - (v / 100) * 100 = (x - ((x / (100 : Int32)) * (100 : Int32))) ∧ v - (v / 10) * 10 = (x - ((x / (10 : Int32)) * (10 : Int32))) ∧ (v / 10) - ((v / 10) / 100) * 100 = ((x / (10 : Int32)) - (((x / (10 : Int32)) / (100 : Int32)) * (100 : Int32))) ∧ v / 10000 = ((x / (10000 : Int32)) - (((x / (10000 : Int32)) / (10 : Int32)) * (10 : Int32))) ∧ (v / 10) - ((v / 10) / 1000) * 1000 = ((x / (10 : Int32)) - (((x / (10 : Int32)) / (1000 : Int32)) * (1000 : Int32))) ∧ (((x / (100 : Int32)) - (((x / (100 : Int32)) / (1000 : Int32)) * (1000 : Int32))) = 0 ↔ ¬ (100 : Int32) ≤ v) ∧ (¬ (100 : Int32) ≤ v → (x - ((x / (100 : Int32)) * (100 : Int32))) = v) := by
  have v0 : 0 ≤ v.toInt := by omega
  have d : ∀ {y : Int32}, 0 ≤ y.toInt → (y / 10).toInt = y.toInt / 10 ∧ (y / 100).toInt = y.toInt / 100 ∧ (y / 1000).toInt = y.toInt / 1000 ∧ (y / 10000).toInt = y.toInt / 10000 := fun hy => ⟨i32_div hy j10 (by decide), i32_div hy j100 (by decide), i32_div hy j1000 (by decide), i32_div hy j10000 (by decide)⟩
  have m : ∀ {y : Int32}, 0 ≤ y.toInt → (y - (y / 10) * 10).toInt = y.toInt % 10 ∧ (y - (y / 100) * 100).toInt = y.toInt % 100 ∧ (y - (y / 1000) * 1000).toInt = y.toInt % 1000 := fun hy => ⟨i32_mod hy j10 (by decide), i32_mod hy j100 (by decide), i32_mod hy j1000 (by decide)⟩
  obtain ⟨a1, a2, a3, a4⟩ := d v0
  obtain ⟨b1, b2, b3, b4⟩ := d h0
  have nv1 : 0 ≤ (v / 10).toInt := by omega
  have nv2 : 0 ≤ (v / 100).toInt := by omega
  have nx1 : 0 ≤ (x / 10).toInt := by omega
  have nx2 : 0 ≤ (x / 100).toInt := by omega
  have nx3 : 0 ≤ (x / 1000).toInt := by omega
  have nx4 : 0 ≤ (x / 10000).toInt := by omega
  refine ⟨i32_eq ?_, i32_eq ?_, i32_eq ?_, i32_eq ?_, i32_eq ?_, i32_eq ?_, i32_eq ?_, ⟨fun e => ?_, fun e => i32_eq ?_⟩, fun e => i32_eq ?_⟩
  · rw [a3, (m nx3).2.1, b3]; omega
  · rw [(m nv2).1, (m nx2).1, a2, b2]; omega
  · rw [(m v0).2.1, (m h0).2.1]; omega
  · rw [(m v0).1, (m h0).1]; omega
  · rw [(m nv1).2.1, (m nx1).2.1, a1, b1]; omega
  · rw [a4, (m nx4).1, b4]; omega
  · rw [(m nv1).2.2, (m nx1).2.2, a1, b1]; omega
  · have e2 := congrArg Int32.toInt e
    rw [(m nx2).2.2, b2, i32_0] at e2
    rw [i32_le, j100]; omega
  · rw [i32_le, j100] at e
    rw [(m nx2).2.2, b2, i32_0]; omega
  · rw [i32_le, j100] at e
    rw [(m h0).2.1]; omega
/-- a command of a script: done alike, or failed alike -/
def Scr (T : Int) (mo : MoT) (c : Int32 × StT) (m : Int32 × MoT) : Prop := (c.1 = 0 ∧ m.1 = 0 ∧ ∃ W, m.2 = mW' mo W) ∨ (¬ c.1 = 0 ∧ ¬ m.1 = 0 ∧ ∃ W, m.2 = mW' mo W ∧ RS c.2 W ∧ rOK W ∧ BD (T + 99) W)
theorem scr_dos {T : Int} {st : StT} {mo : MoT} {t : Int32 × StT} {d : Int32 × (Nat → Int32)} (h : Dos T st (mW mo) t d) (hr : rOK d.2) : Scr T mo (if t.1 < 0 then ((0 : Int32), t.2) else ((1 : Int32), t.2)) (d.1, mW' mo d.2) := by
  rcases h with ⟨h1, h2, h3⟩ | ⟨h1, h2, h3, h4⟩
  · rw [if_pos h2]
    exact Or.inl ⟨rfl, by rw [h1], d.2, rfl⟩
  · rw [if_neg h2]
    exact Or.inr ⟨by show ¬ (1 : Int32) = 0; decide, by rw [h1]; decide, d.2, rfl, h3, hr, h4⟩
theorem scr_dos2 {T : Int} {st : StT} {mo : MoT} {t : Int32 × StT} {d : Int32 × (Nat → Int32)} (h : Dos T st (mW mo) t d) (hr : rOK d.2) : Scr T mo (if t.1 < 0 then ((0 : Int32), t.2) else ((1 : Int32), t.2)) (if d.1 = 0 then ((0 : Int32), mW' mo d.2) else ((1 : Int32), mW' mo d.2)) := by
  by_cases c : d.1 = 0
  · have g := scr_dos h hr
    rw [c] at g
    rw [if_pos c]; exact g
  · rw [if_neg c]
    rcases h with ⟨h1, h2, h3⟩ | ⟨h1, h2, h3, h4⟩
    · rw [h1] at c; exact absurd rfl c
    · rw [if_neg h2]
      exact Or.inr ⟨by show ¬ (1 : Int32) = 0; decide, by show ¬ (1 : Int32) = 0; decide, d.2, rfl, h3, hr, h4⟩
theorem scr_no {T : Int} {mo : MoT} {c : StT} : Scr T mo ((0 : Int32), c) ((0 : Int32), mo) := Or.inl ⟨rfl, rfl, mW mo, rfl⟩
theorem scr_yes {T : Int} {st : StT} {mo : MoT} (hR : RS st (mW mo)) (hr : rOK (mW mo)) (hB : BD T (mW mo)) : Scr T mo ((1 : Int32), st) ((1 : Int32), mo) := Or.inr ⟨by show ¬ (1 : Int32) = 0; decide, by show ¬ (1 : Int32) = 0; decide, mW mo, rfl, hR, hr, BD_up hB (by omega)⟩
theorem scr_eq {T : Int} {st : StT} {mo : MoT} {x : Int32} (hR : RS st (mW mo)) (hr : rOK (mW mo)) (hB : BD T (mW mo)) (hT : T ≤ 10000000) (h0 : 0 ≤ x.toInt) (h1 : x.toInt < 1000000) : Scr T mo (m_X3_succeeds st x) (m_X9_command mo (x / 100000) (x - (x / 100000) * 100000)) := by
  have ok := hR.ok hr
  obtain ⟨e1, e2⟩ := dig h0
  obtain ⟨g1, g2, g3, g4, g5, g6, g7, g8, g9⟩ := digs h0 h1 e2
  rw [suc_eq]
  unfold m_X9_command sucF
  rw [g1, g2, g3, g4, g5, g6, g7]
  generalize x - (x / 100000) * 100000 = v at *
  generalize ((x / (1000 : Int32)) - (((x / (1000 : Int32)) / (100 : Int32)) * (100 : Int32))) = s23 at *
  generalize ((x / (10000 : Int32)) - (((x / (10000 : Int32)) / (10 : Int32)) * (10 : Int32))) = f2 at *
  generalize ((x / (100 : Int32)) - (((x / (100 : Int32)) / (1000 : Int32)) * (1000 : Int32))) = zb at *
  generalize ((x / (10 : Int32)) - (((x / (10 : Int32)) / (1000 : Int32)) * (1000 : Int32))) = f345 at *
  generalize ((x / (100 : Int32)) - (((x / (100 : Int32)) / (10 : Int32)) * (10 : Int32))) = f4 at *
  generalize ((x / (10 : Int32)) - (((x / (10 : Int32)) / (100 : Int32)) * (100 : Int32))) = f45 at *
  generalize (x - ((x / (100 : Int32)) * (100 : Int32))) = f56 at *
  generalize (x - ((x / (10 : Int32)) * (10 : Int32))) = f6 at *
  generalize (x / (100000 : Int32)) = hw at *
  by_cases h1 : hw = 1
  · rw [if_pos h1, if_pos h1]
    exact scr_dos (d_lend hR hr hB hT) (rok_does hr)
  rw [if_neg h1, if_neg h1]
  by_cases h2 : hw = 2
  · rw [if_pos h2, if_pos h2]
    by_cases q : (100 : Int32) ≤ v
    · rw [if_pos q, if_neg (fun e => g8.mp e q)]; exact scr_no
    rw [if_neg q, if_pos (g8.mpr q), g9 q]
    exact scr_dos2 (d_bring hR hr hB hT) (rok_does hr)
  rw [if_neg h2, if_neg h2]
  by_cases h3 : hw = 3
  · rw [if_pos h3, if_pos h3]
    by_cases q : f6 = 0
    case neg => rw [if_neg q, if_neg q]; exact scr_no
    rw [if_pos q, if_pos q]
    exact scr_dos2 (d_exchange hR hr hB) (rok_does hr)
  rw [if_neg h3, if_neg h3]
  by_cases h4 : hw = 4
  · rw [if_pos h4, if_pos h4]
    exact scr_dos (d_take hR hr hB hT) (rok_does hr)
  rw [if_neg h4, if_neg h4]
  by_cases h5 : hw = 5
  · rw [if_pos h5, if_pos h5]
    by_cases q : (100 : Int32) ≤ v
    · rw [if_pos q, if_neg (fun e => g8.mp e q)]; exact scr_no
    rw [if_neg q, if_pos (g8.mpr q), g9 q]
    exact scr_dos2 (d_days hR hr hB hT) (rok_does hr)
  rw [if_neg h5, if_neg h5]
  by_cases h6 : hw = 6
  · rw [if_pos h6, if_pos h6]
    by_cases q : f56 = 0
    case neg => rw [if_neg q, if_neg q]; exact scr_no
    rw [if_pos q, if_pos q]
    exact scr_dos2 (d_buy hR hr hB) (rok_does hr)
  rw [if_neg h6, if_neg h6]
  by_cases h7 : hw = 7
  · rw [if_pos h7, if_pos h7]
    by_cases q : f56 = 0
    case neg => rw [if_neg q, if_neg q]; exact scr_no
    rw [if_pos q, if_pos q]
    unfold m_X3_isAt
    rw [unit_eq hR.1.1 ok.1, hold_eq]
    by_cases a : m_X7_has (sU st) s23 = 0
    · rw [if_pos a, if_pos a, if_pos rfl]; exact scr_no
    rw [if_neg a, if_neg a]
    by_cases b : m_X8_isHolder f4 = 0
    · rw [if_pos b, if_pos b, if_pos rfl]; exact scr_no
    rw [if_neg b, if_neg b, ru_p hR.1 ok.1 a]
    by_cases d : uP (sU st) s23.toNatClampNeg = f4
    · rw [if_pos d, if_pos d, if_neg (show ¬ (1 : Int32) = 0 by decide)]; exact scr_yes hR hr hB
    · rw [if_neg d, if_neg d, if_pos rfl]; exact scr_no
  rw [if_neg h7, if_neg h7]
  by_cases h8 : hw = 8
  · rw [if_pos h8, if_pos h8]
    by_cases q : f6 = 0
    case neg => rw [if_neg q, if_neg q]; exact scr_no
    rw [if_pos q, if_pos q]
    unfold m_X3_hasMoney
    rw [hold_eq]
    by_cases a : m_X8_isHolder f2 = 0
    · rw [if_pos a, if_pos a, if_pos rfl]; exact scr_no
    have hx := hold_iv a
    have f88 : ((88 : Int32) + f2).toNatClampNeg = 88 + f2.toNatClampNeg := by
      have h2 := hx.2
      have h3 := hx.1
      have e : (88 : Int32).toInt = 88 := by decide
      rw [tnc_d, tnc_d, i32_add (by omega) (by omega), e]
      omega
    rw [if_neg a, if_neg a, f88, hR.2.2.2.1 _ (iv_tnc hx (by decide))]
    by_cases d : sA st f2.toNatClampNeg < f345 - 500
    · rw [if_pos d, if_pos d, if_pos rfl]; exact scr_no
    · rw [if_neg d, if_neg d, if_neg (show ¬ (1 : Int32) = 0 by decide)]; exact scr_yes hR hr hB
  rw [if_neg h8, if_neg h8]
  by_cases h9 : hw = 9
  · rw [if_pos h9, if_pos h9]
    by_cases q : (100 : Int32) ≤ v
    · rw [if_pos q, if_neg (fun e => g8.mp e q)]; exact scr_no
    rw [if_neg q, if_pos (g8.mpr q), g9 q]
    rw [usable_eq hR hr]
    by_cases d : m_X7_usableOnes (sU st) < v
    · rw [if_pos d, if_pos d]; exact scr_no
    · rw [if_neg d, if_neg d]; exact scr_yes hR hr hB
  rw [if_neg h9, if_neg h9]
  exact scr_no
