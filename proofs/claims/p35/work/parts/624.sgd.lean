/-! p35: debts of parts cancel: no two owe one another the same part -/
def DG (T : Int) (de : Nat → Int32) : Prop := (∀ i : Nat, i < 225 → 0 ≤ (de i).toInt ∧ (de i).toInt ≤ T) ∧ ∀ a b q : Nat, a < 5 → b < 5 → q < 9 → de (45 * a + 9 * b + q) = 0 ∨ de (45 * b + 9 * a + q) = 0
theorem DG.up {T T2 : Int} {de : Nat → Int32} (h : DG T de) (e : T ≤ T2) : DG T2 de := ⟨fun i hi => ⟨(h.1 i hi).1, Int.le_trans (h.1 i hi).2 e⟩, h.2⟩
theorem iv_kind {x : Int32} (c : ¬ m_X8_isKind x = 0) : iv 0 2 x := by
  have := hs_isKind c
  exact ⟨by omega, by omega⟩
theorem iv_part {x : Int32} (c : ¬ m_X8_isPart x = 0) : iv 0 2 x := by
  have := hs_isPart c
  exact ⟨by omega, by omega⟩
theorem tnc4 {x : Int32} (h : iv 0 4 x) : x.toNatClampNeg < 5 := by
  have h1 := h.1
  have h2 := h.2
  rw [tnc_d]; omega
theorem tnc2 {x : Int32} (h : iv 0 2 x) : x.toNatClampNeg < 3 := by
  have h1 := h.1
  have h2 := h.2
  rw [tnc_d]; omega
theorem dix_q (a b c d : Int32) : dIx a b c d = 45 * a.toNatClampNeg + 9 * b.toNatClampNeg + (3 * c.toNatClampNeg + d.toNatClampNeg) := by unfold dIx; omega
theorem dg_set {T : Int} {de : Nat → Int32} (h : DG T de) {a b q : Nat} (ha : a < 5) (hb : b < 5) (hq : q < 9) {v : Int32} (hv : 0 ≤ v.toInt ∧ v.toInt ≤ T) (hz : de (45 * b + 9 * a + q) = 0) (ne : ¬ a = b) : DG T (upd de (45 * a + 9 * b + q) v) := by
  refine ⟨fun i hi => ?_, fun a2 b2 q2 l1 l2 l3 => ?_⟩
  · show 0 ≤ (if i = 45 * a + 9 * b + q then v else de i).toInt ∧ (if i = 45 * a + 9 * b + q then v else de i).toInt ≤ T
    split
    · exact hv
    · exact h.1 i hi
  · show (if 45 * a2 + 9 * b2 + q2 = 45 * a + 9 * b + q then v else de (45 * a2 + 9 * b2 + q2)) = 0 ∨ (if 45 * b2 + 9 * a2 + q2 = 45 * a + 9 * b + q then v else de (45 * b2 + 9 * a2 + q2)) = 0
    by_cases c1 : 45 * a2 + 9 * b2 + q2 = 45 * a + 9 * b + q
    · have e1 : a2 = a := by omega
      have e2 : b2 = b := by omega
      have e3 : q2 = q := by omega
      subst e1 e2 e3
      right
      rw [if_neg (by omega)]
      exact hz
    · rw [if_neg c1]
      by_cases c2 : 45 * b2 + 9 * a2 + q2 = 45 * a + 9 * b + q
      · have e1 : b2 = a := by omega
        have e2 : a2 = b := by omega
        have e3 : q2 = q := by omega
        subst e1 e2 e3
        left
        exact hz
      · rw [if_neg c2]
        exact h.2 a2 b2 q2 l1 l2 l3
theorem dg_add {T : Int} {de : Nat → Int32} (h : DG T de) (hT : T ≤ 10000000) {x1 x2 x3 x4 : Int32} : DG (T + 1) (m_X1_addOne de x1 x2 x3 x4) := by
  have h1 := h.up (T2 := T + 1) (by omega)
  unfold m_X1_addOne
  by_cases c1 : m_X1_indexOf x1 x2 x3 x4 = -1
  · rw [if_pos c1]; exact h1
  rw [if_neg c1]
  by_cases c2 : m_X1_indexOf x2 x1 x3 x4 = -1
  · rw [if_pos c2]; exact h1
  rw [if_neg c2]
  by_cases c3 : m_X1_indexOf x1 x2 x3 x4 = m_X1_indexOf x2 x1 x3 x4
  · rw [if_pos c3]; exact h1
  rw [if_neg c3]
  obtain ⟨g1, g2, g3, g4, -⟩ := hs_indexOf c1
  have v1 := iv_hold g1
  have v2 := iv_hold g2
  have v3 := iv_kind g3
  have v4 := iv_part g4
  have e1 := (dIx_c v1 v2 v3 v4).2.1
  have e2 := (dIx_c v2 v1 v3 v4).2.1
  have ne : ¬ x1.toNatClampNeg = x2.toNatClampNeg := fun e => c3 (by rw [show x1 = x2 from i32_eq (by have := v1.1; have := v2.1; rw [tnc_d, tnc_d] at e; omega)])
  rw [e1, e2, dix_q, dix_q]
  have l1 := tnc4 v1
  have l2 := tnc4 v2
  have l3 := tnc2 v3
  have l4 := tnc2 v4
  generalize x1.toNatClampNeg = a at *
  generalize x2.toNatClampNeg = b at *
  have lq : 3 * x3.toNatClampNeg + x4.toNatClampNeg < 9 := by omega
  generalize 3 * x3.toNatClampNeg + x4.toNatClampNeg = q at *
  have b1 := h.1 (45 * b + 9 * a + q) (by omega)
  have b2 := h.1 (45 * a + 9 * b + q) (by omega)
  by_cases c4 : de (45 * b + 9 * a + q) ≤ 0
  · rw [if_pos c4]
    have z0 : de (45 * b + 9 * a + q) = 0 := i32_eq (by rw [i32_le, i32_0] at c4; rw [i32_0]; omega)
    exact dg_set h1 l1 l2 lq (by rw [i32_add (by rw [i32_1]; omega) (by rw [i32_1]; omega), i32_1]; omega) z0 ne
  · rw [if_neg c4]
    rw [i32_le, i32_0] at c4
    have z0 : de (45 * a + 9 * b + q) = 0 := (h.2 a b q l1 l2 lq).elim id (fun e => absurd e (fun e => by rw [e, i32_0] at c4; exact c4 (Int.le_refl _)))
    exact dg_set h1 l2 l1 lq (by rw [i32_sub (by rw [i32_1]; omega) (by rw [i32_1]; omega), i32_1]; omega) z0 (fun e => ne e.symm)
theorem dg_rem {T : Int} {de : Nat → Int32} (h : DG T de) (hT : T ≤ 10000000) {x1 x2 x3 x4 : Int32} : DG (T + 1) (m_X1_removeOne de x1 x2 x3 x4) := by
  have h1 := h.up (T2 := T + 1) (by omega)
  unfold m_X1_removeOne
  by_cases c1 : m_X1_indexOf x1 x2 x3 x4 = -1
  · rw [if_pos c1]; exact h1
  rw [if_neg c1]
  by_cases c2 : de (m_X1_indexOf x1 x2 x3 x4).toNatClampNeg ≤ 0
  · rw [if_pos c2]; exact h1
  rw [if_neg c2]
  obtain ⟨g1, g2, g3, g4, -⟩ := hs_indexOf c1
  have v1 := iv_hold g1
  have v2 := iv_hold g2
  have v3 := iv_kind g3
  have v4 := iv_part g4
  have e1 := (dIx_c v1 v2 v3 v4).2.1
  rw [e1, dix_q] at c2 ⊢
  have l1 := tnc4 v1
  have l2 := tnc4 v2
  have l3 := tnc2 v3
  have l4 := tnc2 v4
  generalize x1.toNatClampNeg = a at *
  generalize x2.toNatClampNeg = b at *
  have lq : 3 * x3.toNatClampNeg + x4.toNatClampNeg < 9 := by omega
  generalize 3 * x3.toNatClampNeg + x4.toNatClampNeg = q at *
  have b2 := h.1 (45 * a + 9 * b + q) (by omega)
  rw [i32_le, i32_0] at c2
  have n0 : ¬ de (45 * a + 9 * b + q) = 0 := fun e => by rw [e, i32_0] at c2; exact c2 (Int.le_refl _)
  have z0 : de (45 * b + 9 * a + q) = 0 := (h.2 a b q l1 l2 lq).elim (fun e => absurd e n0) id
  have ne : ¬ a = b := fun e => by
    subst e
    exact n0 z0
  exact dg_set h1 l1 l2 lq (by rw [i32_sub (by rw [i32_1]; omega) (by rw [i32_1]; omega), i32_1]; omega) z0 ne
section SGB
variable {T : Int} {st : StT} {x1 x2 x3 x4 : Int32}
theorem SG.dg (h : SG T st) : DG T (sD st) := h.2.2.1
theorem SG.ofD {s2 : StT} {T2 : Int} (h : SG T st) (e1 : sO s2 = sO st) (e2 : sA s2 = sA st) (e3 : sC s2 = sC st) (e4 : DG T2 (sD s2)) (e5 : uO (sU s2) = uO (sU st) ∧ uP (sU s2) = uP (sU st)) : SG T2 s2 := by
  refine ⟨by rw [e1, e2]; exact h.1, by rw [e3]; exact h.2.1, e4, fun u hu => ?_⟩
  rw [e5.1, e5.2]
  exact h.2.2.2 u hu
theorem sg_take (h : SG T st) (hT : T ≤ 10000000) : SG (T + 1) (m_X5_tryTake st x1 x2 x3).2 := by
  have h1 := h.up (T2 := T + 1) (by omega)
  unfold m_X5_tryTake
  by_cases c1 : m_X7_has (sU st) x1 = 0
  · rw [if_pos c1]; exact h1
  rw [if_neg c1]
  by_cases c2 : m_X7_has (sU st) x2 = 0
  · rw [if_pos c2]; exact h1
  rw [if_neg c2]
  by_cases c3 : m_X8_isPart x3 = 0
  · rw [if_pos c3]; exact h1
  rw [if_neg c3]
  by_cases c4 : m_X7_isOfKindAt (sU st) x1 (uK (sU st) x2.toNatClampNeg) (uP (sU st) x2.toNatClampNeg) = 0
  · rw [if_pos c4]; exact h1
  rw [if_neg c4]
  by_cases c5 : m_X7_hasPart (sU st) x1 x3 = 0
  · rw [if_pos c5]; exact h1
  rw [if_neg c5]
  by_cases c6 : m_X7_hasPart (sU st) x2 x3 = 0
  case neg => rw [if_neg c6]; exact h1
  rw [if_pos c6]
  exact h.ofD rfl rfl rfl (dg_add h.dg hT) ⟨rfl, rfl⟩
theorem sg_settle (h : SG T st) (hT : T ≤ 10000000) : SG (T + 1) (m_X5_trySettle st x1 x2 x3 x4).2 := by
  have h1 := h.up (T2 := T + 1) (by omega)
  unfold m_X5_trySettle
  by_cases c1 : m_X8_isHolder x1 = 0
  · rw [if_pos c1]; exact h1
  rw [if_neg c1]
  by_cases c2 : m_X8_isHolder x2 = 0
  · rw [if_pos c2]; exact h1
  rw [if_neg c2]
  by_cases c3 : m_X8_isKind x3 = 0
  · rw [if_pos c3]; exact h1
  rw [if_neg c3]
  by_cases c4 : m_X8_isPart x4 = 0
  · rw [if_pos c4]; exact h1
  rw [if_neg c4]
  by_cases c5 : m_X1_between (sD st) x1 x2 x3 x4 = 0
  · rw [if_pos c5]; exact h1
  rw [if_neg c5]
  have s2 : SG (T + 1) (sD' st (m_X1_removeOne (sD st) x1 x2 x3 x4)) := h.ofD rfl rfl rfl (dg_rem h.dg hT) ⟨rfl, rfl⟩
  exact s2.pay c1
end SGB
