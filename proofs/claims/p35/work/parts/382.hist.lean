/-- one array's row told by other contents that agree with its own -/
theorem arrV_same {c : ClassId} {n : Nat} {f g : Nat → Value} (h : ∀ j : Nat, j < n → f j = g j) : arrV c n f = arrV c n g := by
  unfold arrV
  congr 1
  exact congrArg Array.ofFn (funext (fun j => h j.1 j.2))
theorem at_arr {D : va_G} {cl : List vw_C} {a n : Nat} {c : ClassId} {f g : Nat → Int32} {H : Heap} (h : va_at D cl (a, .inl (c, n, .inl f)) H) (e : ∀ j : Nat, j < n → f j = g j) : va_at D cl (a, .inl (c, n, .inl g)) H := by
  show H[a]? = some (vp_cell c (n, .inl g))
  have h2 : H[a]? = some (vp_cell c (n, .inl f)) := h
  rw [h2, vp_cell_i, vp_cell_i, arrV_same (fun j hj => by rw [e j hj])]
theorem at_arrq {D : va_G} {cl : List vw_C} {a n : Nat} {c : ClassId} {f g : Nat → Option Nat} {H : Heap} (h : va_at D cl (a, .inl (c, n, .inr (.inr (.inr (.inr f))))) H) (e : ∀ j : Nat, j < n → f j = g j) : va_at D cl (a, .inl (c, n, .inr (.inr (.inr (.inr g))))) H := by
  have h2 : H[a]? = some (arrV c n (fun j => va_rf (f j))) := h
  show H[a]? = some (arrV c n (fun j => va_rf (g j)))
  rw [h2, arrV_same (fun j hj => by rw [e j hj])]
theorem cpyI {f g : Nat → Int32} {n : Int32} {N j : Nat} (hn : n.toNatClampNeg = N) (hj : j < N) : va_cpy f g (0 : Int32).toNatClampNeg (0 : Int32).toNatClampNeg n.toNatClampNeg j = f j := by
  have e0 : (0 : Int32).toNatClampNeg = 0 := by decide
  rw [hn, e0]
  unfold va_cpy
  rw [if_pos (by omega)]
  congr 1
  omega
theorem cp_St {D : va_G} {cy : Nat → ClassId} {a : Nat → Nat} {st so : StT} {H : Heap} (h : va_P D vwCl (wSt cy a (m_X5_copyFrom st so)) H) : va_P D vwCl (wSt cy a so) H := by
  intro k q hq
  match k with
  | 0 => cases hq; exact h 0 _ g_St_0
  | 1 => cases hq; exact h 1 _ g_St_1
  | 2 => cases hq; exact at_arr (h 2 _ g_St_2) (fun j hj => cpyI (n := 16) (by decide) hj)
  | 3 => cases hq; exact at_arr (h 3 _ g_St_3) (fun j hj => cpyI (n := 16) (by decide) hj)
  | 4 => cases hq; exact at_arr (h 4 _ g_St_4) (fun j hj => cpyI (n := 16) (by decide) hj)
  | 5 => cases hq; exact at_arr (h 5 _ g_St_5) (fun j hj => cpyI (n := 16) (by decide) hj)
  | 6 => cases hq; exact at_arr (h 6 _ g_St_6) (fun j hj => cpyI (n := 16) (by decide) hj)
  | 7 => cases hq; exact h 7 _ g_St_7
  | 8 => cases hq; exact at_arr (h 8 _ g_St_8) (fun j hj => cpyI (n := 30) (by decide) hj)
  | 9 => cases hq; exact at_arr (h 9 _ g_St_9) (fun j hj => cpyI (n := 30) (by decide) hj)
  | 10 => cases hq; exact at_arr (h 10 _ g_St_10) (fun j hj => cpyI (n := 5) (by decide) hj)
  | 11 => cases hq; exact h 11 _ g_St_11
  | 12 => cases hq; exact at_arr (h 12 _ g_St_12) (fun j hj => cpyI (n := 225) (by decide) hj)
  | 13 => cases hq; exact at_arr (h 13 _ g_St_13) (fun j hj => cpyI (n := 5) (by decide) hj)
  | 14 => cases hq; exact at_arr (h 14 _ g_St_14) (fun j hj => cpyI (n := 3) (by decide) hj)
  | k + 15 => cases hq
/-- copyFrom: what was copied is there, word for word -/
theorem c_X5_copyTo (l : Launch) (D : va_G) (cy : Nat → ClassId) (a b : Nat → Nat) (st so : StT) : MV l D cy yX5_copyFrom wsX5_copyFrom ({ frames := 2, cells := 0, slots := 0, locals := 61 } : Room) (wStC cy a b st so) (wStC cy a b so so) [.ref (a 0), .ref (b 0)] :=
  (c_X5_copyFrom l D cy a b st so).post (fun _ h => va_P.app (cp_St (va_P_left h)) (va_P_right h))
/-- the states that are kept: block i lies at ka i -/
abbrev HiT : Type := (Nat → StT) × Int32 × Int32
def hK (z : HiT) : Nat → StT := z.1
def hO (z : HiT) : Int32 := z.2.1
def hC (z : HiT) : Int32 := z.2.2
def wBk (cy : Nat → ClassId) (ka : Nat → Nat → Nat) (f : Nat → StT) (n : Nat) : va_W := (List.range n).flatMap (fun i => wSt cy (ka i) (f i))
def wBr (cy : Nat → ClassId) (ka : Nat → Nat → Nat) (f : Nat → StT) (i n : Nat) : va_W := (List.range n).flatMap (fun j => if j = i then [] else wSt cy (ka j) (f j))
theorem bk_succ {cy : Nat → ClassId} {ka : Nat → Nat → Nat} {f : Nat → StT} {n : Nat} : wBk cy ka f (n + 1) = wBk cy ka f n ++ wSt cy (ka n) (f n) := by
  unfold wBk
  rw [List.range_succ, List.flatMap_append]
  congr 1
  try exact List.append_nil _
theorem br_succ {cy : Nat → ClassId} {ka : Nat → Nat → Nat} {f : Nat → StT} {i n : Nat} : wBr cy ka f i (n + 1) = wBr cy ka f i n ++ (if n = i then [] else wSt cy (ka n) (f n)) := by
  unfold wBr
  rw [List.range_succ, List.flatMap_append]
  congr 1
  try exact List.append_nil _
theorem br_same {cy : Nat → ClassId} {ka : Nat → Nat → Nat} {f g : Nat → StT} {i : Nat} (h : ∀ j : Nat, ¬ j = i → f j = g j) : ∀ n : Nat, wBr cy ka f i n = wBr cy ka g i n := by
  intro n
  induction n with
  | zero => rfl
  | succ n ih =>
    rw [br_succ, br_succ, ih]
    by_cases e : n = i
    · rw [if_pos e, if_pos e]
    · rw [if_neg e, if_neg e, h n e]
theorem br_out {cy : Nat → ClassId} {ka : Nat → Nat → Nat} {f : Nat → StT} {i : Nat} : ∀ n : Nat, n ≤ i → wBr cy ka f i n = wBk cy ka f n := by
  intro n
  induction n with
  | zero => intro _; rfl
  | succ n ih =>
    intro h
    rw [br_succ, bk_succ, ih (by omega), if_neg (by omega)]
theorem bk_out {cy : Nat → ClassId} {ka : Nat → Nat → Nat} {f : Nat → StT} {i : Nat} : ∀ n : Nat, i < n → (wBk cy ka f n).Perm (wSt cy (ka i) (f i) ++ wBr cy ka f i n) := by
  intro n
  induction n with
  | zero => intro h; omega
  | succ n ih =>
    intro h
    rw [bk_succ, br_succ]
    by_cases e : n = i
    · subst e
      rw [if_pos rfl, br_out n (Nat.le_refl _), List.append_nil]
      exact List.perm_append_comm
    · rw [if_neg e, ← List.append_assoc]
      exact List.Perm.append_right _ (ih (by omega))
theorem bk_adr {cy : Nat → ClassId} {ka : Nat → Nat → Nat} {f g : Nat → StT} : ∀ n : Nat, (wBk cy ka f n).map Prod.fst = (wBk cy ka g n).map Prod.fst := by
  intro n
  induction n with
  | zero => rfl
  | succ n ih => rw [bk_succ, bk_succ, List.map_append, List.map_append, ih, h_St (z2 := g n)]
def wHd (cy : Nat → ClassId) (h0 h1 : Nat) (ka : Nat → Nat → Nat) (o c : Int32) : va_W := [(h0, .inr (2, [.ref h1, .int o, .int c])), (h1, .inl (cy 2, 15, .inr (.inr (.inr (.inr (fun i => some (ka i 0)))))))]
def wHi (cy : Nat → ClassId) (h0 h1 : Nat) (ka : Nat → Nat → Nat) (z : HiT) : va_W := wHd cy h0 h1 ka (hO z) (hC z) ++ wBk cy ka (hK z) 15
/-- the ring's numbers are in their bounds -/
def hiOK (z : HiT) : Prop := iv 0 14 (hO z) ∧ iv 0 14 (hC z)
def hiN (z : HiT) : Int32 := (hO z + hC z) - ((hO z + hC z) / 15) * 15
theorem r15 {x : Int32} (h : iv 0 28 x) : iv 0 14 (x - (x / 15) * 15) := by
  have h1 := h.1
  have h2 := h.2
  have e : x = Int32.ofInt x.toInt := by rw [Int32.ofInt_toInt]
  have k : ∀ n : Nat, n < 29 → iv 0 14 (Int32.ofInt n - (Int32.ofInt n / 15) * 15) := by
    unfold iv
    decide +kernel
  have := k x.toInt.toNat (by omega)
  rw [show ((x.toInt.toNat : Nat) : Int) = x.toInt by omega, ← e] at this
  exact this
theorem hiN_iv {z : HiT} (h : hiOK z) : iv 0 14 (hiN z) := r15 (iv_add (l := 0) (h := 28) h.1 h.2 (by decide))
theorem hiN_lt {z : HiT} (h : hiOK z) : (hiN z).toNatClampNeg < 15 := by
  have := iv_int (hiN_iv h)
  have := (hiN_iv h).2
  omega
def hiPrep (z : HiT) (st : StT) : HiT := (va_up (hK z) (hiN z).toNatClampNeg st, hO z, hC z)
def hiKeep (z : HiT) : HiT := if 14 ≤ hC z then (hK z, (hO z + 1) - ((hO z + 1) / 15) * 15, hC z) else (hK z, hO z, hC z + 1)
def hiForget (z : HiT) : HiT := (hK z, hO z, 0)
def hiDown (z : HiT) : HiT := (hK z, hO z, hC z - 1)
def hiBack (z : HiT) (st : StT) : StT × HiT := if hC z ≤ 0 then (st, z) else (hK z (hiN (hiDown z)).toNatClampNeg, hiDown z)
theorem ok_prep {z : HiT} {st : StT} (h : hiOK z) : hiOK (hiPrep z st) := h
theorem ok_forget {z : HiT} (h : hiOK z) : hiOK (hiForget z) := ⟨h.1, iv_wide iv_0 (by decide)⟩
theorem ok_down {z : HiT} (h : hiOK z) (c : ¬ hC z ≤ 0) : hiOK (hiDown z) := by
  refine ⟨h.1, ?_⟩
  have h1 := h.2.2
  rw [i32_le, i32_0] at c
  have e : (hC z - 1).toInt = (hC z).toInt - 1 := by rw [i32_sub (by rw [i32_1]; omega) (by rw [i32_1]; omega), i32_1]
  exact ⟨by show 0 ≤ (hC z - 1).toInt; rw [e]; omega, by show (hC z - 1).toInt ≤ 14; rw [e]; omega⟩
theorem ok_back {z : HiT} {st : StT} (h : hiOK z) : hiOK (hiBack z st).2 := by
  unfold hiBack
  by_cases c : hC z ≤ 0
  · rw [if_pos c]; exact h
  · rw [if_neg c]; exact ok_down h c
theorem ok_keep {z : HiT} (h : hiOK z) : hiOK (hiKeep z) := by
  unfold hiKeep
  by_cases c : 14 ≤ hC z
  · rw [if_pos c]
    exact ⟨r15 (iv_wide (iv_add (l := 1) (h := 15) h.1 (iv_lit (v := 1) (by decide)) (by decide)) (by decide)), h.2⟩
  · rw [if_neg c]
    refine ⟨h.1, ?_⟩
    have h1 := h.2.1
    have e14 : (14 : Int32).toInt = 14 := by decide
    rw [i32_le, e14] at c
    have e : (hC z + 1).toInt = (hC z).toInt + 1 := by rw [i32_add (by rw [i32_1]; omega) (by rw [i32_1]; omega), i32_1]
    exact ⟨by show 0 ≤ (hC z + 1).toInt; rw [e]; omega, by show (hC z + 1).toInt ≤ 14; rw [e]; omega⟩
/-- the history beside another state: one kept state and that one in front -/
theorem hp_out {cy : Nat → ClassId} {h0 h1 : Nat} {ka : Nat → Nat → Nat} {na : Nat → Nat} {z : HiT} {st : StT} {i : Nat} (hi : i < 15) : (wHi cy h0 h1 ka z ++ wSt cy na st).Perm ((wSt cy (ka i) (hK z i) ++ wSt cy na st) ++ (wHd cy h0 h1 ka (hO z) (hC z) ++ wBr cy ka (hK z) i 15)) := by
  refine pm_two (W1 := wHi cy h0 h1 ka z) List.perm_append_comm ?_
  exact pm_in (bk_out 15 hi)
theorem hp_out2 {cy : Nat → ClassId} {h0 h1 : Nat} {ka : Nat → Nat → Nat} {na : Nat → Nat} {z : HiT} {st : StT} {i : Nat} (hi : i < 15) : (wHi cy h0 h1 ka z ++ wSt cy na st).Perm ((wSt cy na st ++ wSt cy (ka i) (hK z i)) ++ (wHd cy h0 h1 ka (hO z) (hC z) ++ wBr cy ka (hK z) i 15)) :=
  (hp_out hi).trans (List.Perm.append_right _ List.perm_append_comm)
theorem hp_prep {cy : Nat → ClassId} {h0 h1 : Nat} {ka : Nat → Nat → Nat} {na : Nat → Nat} {z : HiT} {st : StT} (h : hiOK z) : (wHi cy h0 h1 ka (hiPrep z st) ++ wSt cy na st).Perm ((wSt cy (ka (hiN z).toNatClampNeg) st ++ wSt cy na st) ++ (wHd cy h0 h1 ka (hO z) (hC z) ++ wBr cy ka (hK z) (hiN z).toNatClampNeg 15)) := by
  have p := hp_out (cy := cy) (h0 := h0) (h1 := h1) (ka := ka) (na := na) (z := hiPrep z st) (st := st) (hiN_lt h)
  have e1 : hK (hiPrep z st) (hiN z).toNatClampNeg = st := if_pos rfl
  have e2 : wBr cy ka (hK (hiPrep z st)) (hiN z).toNatClampNeg 15 = wBr cy ka (hK z) (hiN z).toNatClampNeg 15 := br_same (fun j hj => if_neg hj) 15
  rw [e1, e2] at p
  exact p
