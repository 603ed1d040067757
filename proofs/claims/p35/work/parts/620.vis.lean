/-! p35: what can be seen of a pool; refused calls leave it -/
/-- the j-th state kept, from the oldest -/
def hv (h : HiT) (j : Nat) : StT := hK h (((hO h).toNatClampNeg + j) % 15)
def hcN (h : HiT) : Nat := (hC h).toNatClampNeg
/-- alike to all that calls can show -/
def VIS (z z2 : SpT) : Prop := (tS (pT z2) = tS (pT z) ∧ tL (pT z2) = tL (pT z)) ∧ (pN z2 = pN z ∧ pA z2 = pA z ∧ pB z2 = pB z ∧ pV z2 = pV z) ∧ (hO (pH z2) = hO (pH z) ∧ hC (pH z2) = hC (pH z)) ∧ ∀ j : Nat, j < hcN (pH z) → hv (pH z2) j = hv (pH z) j
theorem VIS.rf {z : SpT} : VIS z z := ⟨⟨rfl, rfl⟩, ⟨rfl, rfl, rfl, rfl⟩, ⟨rfl, rfl⟩, fun _ _ => rfl⟩
theorem VIS.tr {a b c : SpT} (h : VIS a b) (k : VIS b c) : VIS a c := by
  obtain ⟨⟨a1, a2⟩, ⟨a3, a4, a5, a6⟩, ⟨a7, a8⟩, a9⟩ := h
  obtain ⟨⟨b1, b2⟩, ⟨b3, b4, b5, b6⟩, ⟨b7, b8⟩, b9⟩ := k
  refine ⟨⟨b1.trans a1, b2.trans a2⟩, ⟨b3.trans a3, b4.trans a4, b5.trans a5, b6.trans a6⟩, ⟨b7.trans a7, b8.trans a8⟩, fun j hj => (b9 j ?_).trans (a9 j hj)⟩
  show j < (hC (pH b)).toNatClampNeg
  rw [a8]
  exact hj
theorem VIS.pr {T : Int} {z z2 : SpT} {mo : MoT} (v : VIS z z2) (H : PR T z mo) : PR T z2 mo := by
  obtain ⟨⟨a1, a2⟩, ⟨a3, a4, a5, a6⟩, ⟨a7, a8⟩, a9⟩ := v
  obtain ⟨⟨t1, t2, t3⟩, n, ⟨h1, h2, h3⟩, s1, s2, s3⟩ := H
  refine ⟨⟨a1.trans t1, a2.trans t2, t3⟩, by rw [a3]; exact n, ⟨⟨by rw [a7]; exact h1.1, by rw [a8]; exact h1.2⟩, a8.trans h2, fun j hj => ?_⟩, by rw [a6]; exact s1, by rw [a4]; exact s2, by rw [a5]; exact s3⟩
  rw [a8] at hj
  have g := h3 j hj
  have k : hK (pH z2) (((hO (pH z2)).toNatClampNeg + j) % 15) = hK (pH z) (((hO (pH z)).toNatClampNeg + j) % 15) := a9 j hj
  rw [k]
  exact g
theorem VIS.ok {z z2 : SpT} (v : VIS z z2) (h : OKz z) : OKz z2 := by
  obtain ⟨T, mo, h0, h1, H⟩ := h
  exact ⟨T, mo, h0, h1, v.pr H⟩
/-- what an action on the state says: done, or refused with the state as it was -/
def Out (t : Int32 × StT) (st : StT) : Prop := 0 ≤ t.1.toInt ∨ (t.2 = st ∧ (t.1 = -1 ∨ t.1 = -2 ∨ t.1 = -3))
theorem out_of {T : Int} {st : StT} {w : Int32} {t : Int32 × StT} {o : Int32 × (Nat → Int32)} {es : List (Int32 × Int32)} (A : Act T st w t o es) (he : ∀ e ∈ es, e.2 = -1 ∨ e.2 = -2 ∨ e.2 = -3) : Out t st := by
  rcases A with ⟨-, h2, h3, -⟩ | ⟨e, he1, -, h⟩
  · exact Or.inl (by rw [h2]; exact h3)
  · rw [h]
    exact Or.inr ⟨rfl, he e he1⟩
theorem he_3 : ∀ e ∈ es3, e.2 = -1 ∨ e.2 = -2 ∨ e.2 = -3 := by decide +kernel
theorem he_2 : ∀ e ∈ es2, e.2 = -1 ∨ e.2 = -2 ∨ e.2 = -3 := by decide +kernel
theorem he_1 : ∀ e ∈ ([(1, -2)] : List (Int32 × Int32)), e.2 = -1 ∨ e.2 = -2 ∨ e.2 = -3 := by decide +kernel
/-- an action of the pool -/
def fnA (z : SpT) (t : Int32 × StT) : Nat × Int32 × SpT := m_X8_finishAction (pN' (pH' z (hiPrep (pH z) (pN z))) t.2) t.1
theorem fin_ok {z : SpT} {t : Int32 × StT} (h : 0 ≤ t.1.toInt) : fnA z t = (0, t.1, pH' (pN' (pH' z (hiPrep (pH z) (pN z))) t.2) (hiKeep (hiPrep (pH z) (pN z)))) := by
  unfold fnA m_X8_finishAction
  have n3 : ¬ t.1 = -3 := fun q => by rw [q] at h; exact absurd h (by decide)
  have n2 : ¬ t.1 = -2 := fun q => by rw [q] at h; exact absurd h (by decide)
  have n1 : ¬ t.1 = -1 := fun q => by rw [q] at h; exact absurd h (by decide)
  rw [if_neg n3, if_neg n2, if_neg n1]
  rfl
theorem fin_no {z : SpT} {t : Int32 × StT} (h1 : t.2 = pN z) (h2 : t.1 = -1 ∨ t.1 = -2 ∨ t.1 = -3) : ¬ (fnA z t).1 = 0 ∧ (fnA z t).2.2 = pN' (pH' z (hiPrep (pH z) (pN z))) (pN z) := by
  unfold fnA m_X8_finishAction
  rw [h1]
  rcases h2 with h2 | h2 | h2
  · rw [h2, if_neg (show ¬ (-1 : Int32) = -3 by decide), if_neg (show ¬ (-1 : Int32) = -2 by decide), if_pos rfl]
    exact ⟨fun q => absurd (show (1 : Nat) = 0 from q) (by decide), rfl⟩
  · rw [h2, if_neg (show ¬ (-2 : Int32) = -3 by decide), if_pos rfl]
    exact ⟨fun q => absurd (show (2 : Nat) = 0 from q) (by decide), rfl⟩
  · rw [h2, if_pos rfl]
    exact ⟨fun q => absurd (show (3 : Nat) = 0 from q) (by decide), rfl⟩
theorem hv_prep {h : HiT} {st : StT} (ok : hiOK h) {j : Nat} (hj : j < hcN h) : hv (hiPrep h st) j = hv h j := by
  have e := hiN_n ok
  have c2 : hcN h ≤ 14 := by
    have := ok.2.2
    show (hC h).toNatClampNeg ≤ 14
    rw [tnc_d]; omega
  show (if ((hO h).toNatClampNeg + j) % 15 = (hiN h).toNatClampNeg then st else hK h (((hO h).toNatClampNeg + j) % 15)) = _
  rw [if_neg]
  · rfl
  · rw [e]
    show ¬ _ = ((hO h).toNatClampNeg + hcN h) % 15
    omega
theorem vis_fin {z : SpT} {t : Int32 × StT} (ok : hiOK (pH z)) (o : Out t (pN z)) (h : ¬ (fnA z t).1 = 0) : VIS z (fnA z t).2.2 := by
  rcases o with o | ⟨o1, o2⟩
  · rw [fin_ok o] at h
    exact absurd rfl h
  · rw [(fin_no o1 o2).2]
    exact ⟨⟨rfl, rfl⟩, ⟨rfl, rfl, rfl, rfl⟩, ⟨rfl, rfl⟩, fun j hj => hv_prep ok hj⟩
/-- an action that is done: the state as it was stands on top of what is kept -/
theorem hv_keep {h : HiT} {st : StT} (ok : hiOK h) : (hcN h < 14 ∧ hcN (hiKeep (hiPrep h st)) = hcN h + 1 ∧ (∀ j, j < hcN h → hv (hiKeep (hiPrep h st)) j = hv h j) ∧ hv (hiKeep (hiPrep h st)) (hcN h) = st) ∨ (hcN h = 14 ∧ hcN (hiKeep (hiPrep h st)) = 14 ∧ (∀ j, j < 13 → hv (hiKeep (hiPrep h st)) j = hv h (j + 1)) ∧ hv (hiKeep (hiPrep h st)) 13 = st) := by
  have e := hiN_n ok
  have b1 := ok.2.1
  have b2 := ok.2.2
  have c1 : hcN h = (hC h).toInt.toNat := rfl
  have b3 := ok.1.1
  have b4 := ok.1.2
  have o1 : (hO h).toNatClampNeg = (hO h).toInt.toNat := rfl
  have e9 : ((hO h).toNatClampNeg + hcN h) % 15 = (hiN h).toNatClampNeg := e.symm
  by_cases c : (14 : Int32) ≤ hC h
  · have c14 : hcN h = 14 := by
      rw [i32_le, show (14 : Int32).toInt = 14 by decide] at c
      omega
    have k : hiKeep (hiPrep h st) = (hK (hiPrep h st), (hO h + 1) - ((hO h + 1) / 15) * 15, hC h) := by
      unfold hiKeep
      rw [if_pos (show (14 : Int32) ≤ hC (hiPrep h st) from c)]
      rfl
    refine Or.inr ⟨c14, ?_, fun j hj => ?_, ?_⟩
    · rw [k]; exact c14
    · rw [k]
      show (if (((hO h + 1) - ((hO h + 1) / 15) * 15).toNatClampNeg + j) % 15 = (hiN h).toNatClampNeg then st else hK h ((((hO h + 1) - ((hO h + 1) / 15) * 15).toNatClampNeg + j) % 15)) = hK h (((hO h).toNatClampNeg + (j + 1)) % 15)
      rw [o1_n ok.1, if_neg (by omega)]
      congr 1
      omega
    · rw [k]
      show (if (((hO h + 1) - ((hO h + 1) / 15) * 15).toNatClampNeg + 13) % 15 = (hiN h).toNatClampNeg then st else _) = st
      rw [o1_n ok.1, if_pos (by omega)]
  · have c14 : hcN h < 14 := by
      rw [i32_le, show (14 : Int32).toInt = 14 by decide] at c
      omega
    have k : hiKeep (hiPrep h st) = (hK (hiPrep h st), hO h, hC h + 1) := by
      unfold hiKeep
      rw [if_neg (show ¬ (14 : Int32) ≤ hC (hiPrep h st) from c)]
      rfl
    have n1 : hcN (hiKeep (hiPrep h st)) = hcN h + 1 := by
      rw [k]
      show (hC h + 1).toInt.toNat = _
      rw [i32_add (by rw [i32_1]; omega) (by rw [i32_1]; omega), i32_1]
      omega
    refine Or.inl ⟨c14, n1, fun j hj => ?_, ?_⟩
    · rw [k]
      show (if ((hO h).toNatClampNeg + j) % 15 = (hiN h).toNatClampNeg then st else hK h (((hO h).toNatClampNeg + j) % 15)) = hK h (((hO h).toNatClampNeg + j) % 15)
      rw [if_neg (by omega)]
    · rw [k]
      show (if ((hO h).toNatClampNeg + hcN h) % 15 = (hiN h).toNatClampNeg then st else _) = st
      rw [if_pos e9]
theorem hv_back {h : HiT} {st : StT} (ok : hiOK h) (c : 0 < hcN h) : (hiBack h st).1 = hv h (hcN h - 1) ∧ hcN (hiBack h st).2 = hcN h - 1 ∧ ∀ j, hv (hiBack h st).2 j = hv h j := by
  have b1 := ok.2.1
  have b2 := ok.2.2
  have c1 : hcN h = (hC h).toInt.toNat := rfl
  have c9 : ¬ hC h ≤ 0 := by rw [i32_le, i32_0]; omega
  have s1 : (hC h - 1).toInt = (hC h).toInt - 1 := by rw [i32_sub (by rw [i32_1]; omega) (by rw [i32_1]; omega), i32_1]
  have dn : hiOK (hiDown h) := ok_down ok c9
  have nd := hiN_n dn
  have t1 : (hC h - 1).toNatClampNeg = hcN h - 1 := by rw [tnc_d, s1]; omega
  unfold hiBack
  rw [if_neg c9, nd]
  refine ⟨?_, ?_, fun j => rfl⟩
  · show hK h (((hO h).toNatClampNeg + (hC h - 1).toNatClampNeg) % 15) = _
    rw [t1]
    rfl
  · show (hC h - 1).toNatClampNeg = _
    exact t1
