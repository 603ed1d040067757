/-! p35: calls that are refused, whatever the pool is like -/
/-- x % k as the machine computes it -/
def rmJ (x k : Int32) : Int32 := x - x / k * k
theorem rmJ_n {x k : Int32} {K : Int} (hx : 0 ≤ x.toInt) (hk : k.toInt = K) (h : 0 < K) : (rmJ x k).toInt = x.toInt % K := i32_mod hx hk h
theorem rmJ_9 {x : Int32} (hx : 0 ≤ x.toInt) : 0 ≤ (rmJ x 9).toInt ∧ (rmJ x 9).toInt ≤ 8 := by
  rw [rmJ_n hx (K := 9) (by decide) (by decide)]
  omega
theorem rmJ_5 {x : Int32} (hx : 0 ≤ x.toInt) : iv 0 4 (rmJ x 5) := by
  unfold iv
  rw [rmJ_n hx (K := 5) (by decide) (by decide)]
  omega
theorem rmJ_3 {x : Int32} (hx : 0 ≤ x.toInt) : iv 0 2 (rmJ x 3) := by
  unfold iv
  rw [rmJ_n hx (K := 3) (by decide) (by decide)]
  omega
theorem rmJ_2 {x : Int32} (hx : 0 ≤ x.toInt) : iv 0 1 (rmJ x 2) := by
  unfold iv
  rw [rmJ_n hx (K := 2) (by decide) (by decide)]
  omega
/-- a small number more -/
theorem add9 {x k : Int32} {K : Int} (hx : 0 ≤ x.toInt) (hk : k.toInt = K) (h : 0 ≤ K ∧ K ≤ 100000) : K ≤ (k + rmJ x 9).toInt ∧ (k + rmJ x 9).toInt ≤ K + 8 := by
  have := rmJ_9 hx
  rw [i32_add (by omega) (by omega)]
  omega
theorem neg9 {x : Int32} (hx : 0 ≤ x.toInt) : (-1 - rmJ x 9).toInt < 0 := by
  have := rmJ_9 hx
  rw [i32_sub (by rw [im1]; omega) (by rw [im1]; omega), im1]
  omega
theorem no_hold {x : Int32} (h : x.toInt < 0 ∨ 5 ≤ x.toInt) : m_X8_isHolder x = 0 := by
  unfold m_X8_isHolder
  simp only [i32_lt, i32_0, i32_le, ii5]
  split
  · rfl
  · rw [if_pos (by omega)]
theorem no_kind {x : Int32} (h : x.toInt < 0 ∨ 3 ≤ x.toInt) : m_X8_isKind x = 0 := by
  unfold m_X8_isKind
  simp only [i32_lt, i32_0, i32_le, ii3]
  split
  · rfl
  · rw [if_pos (by omega)]
theorem no_part {x : Int32} (h : x.toInt < 0 ∨ 3 ≤ x.toInt) : m_X8_isPart x = 0 := no_kind h
theorem no_setting {x : Int32} (h : x.toInt < 0 ∨ 3 ≤ x.toInt) : m_X8_isSetting x = 0 := no_kind h
theorem no_slot {x : Int32} (h : x.toInt < 0 ∨ 2 ≤ x.toInt) : m_X8_isSlot x = 0 := by
  unfold m_X8_isSlot
  simp only [i32_lt, i32_0, i32_le, ii2]
  split
  · rfl
  · rw [if_pos (by omega)]
theorem no_term {x : Int32} (h : x.toInt < 1 ∨ 30 < x.toInt) : m_X8_isTerm x = 0 := by
  unfold m_X8_isTerm
  simp only [i32_lt, i32_1, i32_lt, ii30]
  split
  · rfl
  · rw [if_pos (by omega)]
theorem is_kind {x : Int32} (h : iv 0 2 x) : ¬ m_X8_isKind x = 0 := by
  unfold m_X8_isKind
  have h1 := h.1
  have h2 := h.2
  simp only [i32_lt, i32_0, i32_le, ii3]
  rw [if_neg (by omega), if_neg (by omega)]
  decide
theorem is_part {x : Int32} (h : iv 0 2 x) : ¬ m_X8_isPart x = 0 := is_kind h
theorem is_term {x : Int32} (h : iv 1 30 x) : ¬ m_X8_isTerm x = 0 := by
  unfold m_X8_isTerm
  have h1 := h.1
  have h2 := h.2
  simp only [i32_lt, i32_1, i32_lt, ii30]
  rw [if_neg (by omega), if_neg (by omega)]
  decide
theorem no_has {un : UnT} {u : Int32} (h : u.toInt < 0 ∨ (uN un).toInt ≤ u.toInt) : m_X7_has un u = 0 := by
  unfold m_X7_has
  simp only [i32_lt, i32_0, i32_le]
  split
  · rfl
  · rw [if_pos (by omega)]
theorem is_has {un : UnT} {u : Int32} (h : 0 ≤ u.toInt ∧ u.toInt < (uN un).toInt) : ¬ m_X7_has un u = 0 := by
  unfold m_X7_has
  simp only [i32_lt, i32_0, i32_le]
  rw [if_neg (by omega), if_neg (by omega)]
  decide
theorem fn_c {z : SpT} {t : Int32 × StT} : (t.1 = -1 → (fnA z t).1 = 1) ∧ (t.1 = -2 → (fnA z t).1 = 2) ∧ (t.1 = -3 → (fnA z t).1 = 3) := by
  refine ⟨fun h => ?_, fun h => ?_, fun h => ?_⟩
  · unfold fnA m_X8_finishAction
    rw [h]; rfl
  · unfold fnA m_X8_finishAction
    rw [h]; rfl
  · unfold fnA m_X8_finishAction
    rw [h]; rfl
/-- a call of the law that is refused so -/
def RF (z : SpT) (k : Nat) (a b c v : Int32) : Prop := kV (callP z k a b c) = v ∧ ((¬ (callP z k a b c).1 = 0) ∨ isQ k)
theorem rf1 {z : SpT} {k : Nat} {a b c : Int32} (h : (callP z k a b c).1 = 1) : RF z k a b c (-9999001) := ⟨by unfold kV; rw [h]; rfl, Or.inl (by rw [h]; decide)⟩
theorem rf2 {z : SpT} {k : Nat} {a b c : Int32} (h : (callP z k a b c).1 = 2) : RF z k a b c (-9999002) := ⟨by unfold kV; rw [h]; rfl, Or.inl (by rw [h]; decide)⟩
theorem rf3 {z : SpT} {k : Nat} {a b c : Int32} (h : (callP z k a b c).1 = 3) : RF z k a b c (-9999003) := ⟨by unfold kV; rw [h]; rfl, Or.inl (by rw [h]; decide)⟩
section RFS
variable {z : SpT} {x1 x2 x3 x4 : Int32}
theorem f_about (h : 10 ≤ x1.toInt) : (m_X8_about z x1).1 = 2 := by
  unfold m_X8_about
  rw [if_neg (fun e => by rw [e, show (0 : Int32).toInt = 0 by decide] at h; omega)]
  rw [if_neg (fun e => by rw [e, show (1 : Int32).toInt = 1 by decide] at h; omega)]
  rw [if_neg (fun e => by rw [e, show (2 : Int32).toInt = 2 by decide] at h; omega)]
  rw [if_neg (fun e => by rw [e, show (3 : Int32).toInt = 3 by decide] at h; omega)]
  rw [if_neg (fun e => by rw [e, show (4 : Int32).toInt = 4 by decide] at h; omega)]
  rw [if_neg (fun e => by rw [e, show (5 : Int32).toInt = 5 by decide] at h; omega)]
  rw [if_neg (fun e => by rw [e, show (6 : Int32).toInt = 6 by decide] at h; omega)]
  rw [if_neg (fun e => by rw [e, show (7 : Int32).toInt = 7 by decide] at h; omega)]
  rw [if_neg (fun e => by rw [e, show (8 : Int32).toInt = 8 by decide] at h; omega)]
  rw [if_neg (fun e => by rw [e, show (9 : Int32).toInt = 9 by decide] at h; omega)]
theorem f_unit1 (h : m_X7_has (sU (pN z)) x1 = 0) : (m_X8_unit z x1 x2).1 = 1 := by
  unfold m_X8_unit
  rw [if_pos h]
theorem f_unit2 (h : ¬ m_X7_has (sU (pN z)) x1 = 0) (h2 : 6 ≤ x2.toInt) : (m_X8_unit z x1 x2).1 = 2 := by
  unfold m_X8_unit
  rw [if_neg h]
  rw [if_neg (fun e => by rw [e, show (0 : Int32).toInt = 0 by decide] at h2; omega)]
  rw [if_neg (fun e => by rw [e, show (1 : Int32).toInt = 1 by decide] at h2; omega)]
  rw [if_neg (fun e => by rw [e, show (2 : Int32).toInt = 2 by decide] at h2; omega)]
  rw [if_neg (fun e => by rw [e, show (3 : Int32).toInt = 3 by decide] at h2; omega)]
  rw [if_neg (fun e => by rw [e, show (4 : Int32).toInt = 4 by decide] at h2; omega)]
  rw [if_neg (fun e => by rw [e, show (5 : Int32).toInt = 5 by decide] at h2; omega)]
theorem f_holder1 (h : m_X8_isHolder x1 = 0) : (m_X8_holder z x1 x2).1 = 1 := by
  unfold m_X8_holder
  rw [if_pos h]
theorem f_holder2 (h : ¬ m_X8_isHolder x1 = 0) (h2 : 7 ≤ x2.toInt) : (m_X8_holder z x1 x2).1 = 2 := by
  unfold m_X8_holder
  rw [if_neg h]
  rw [if_neg (fun e => by rw [e, show (0 : Int32).toInt = 0 by decide] at h2; omega)]
  rw [if_neg (fun e => by rw [e, show (1 : Int32).toInt = 1 by decide] at h2; omega)]
  rw [if_neg (fun e => by rw [e, show (2 : Int32).toInt = 2 by decide] at h2; omega)]
  rw [if_neg (fun e => by rw [e, show (3 : Int32).toInt = 3 by decide] at h2; omega)]
  rw [if_neg (fun e => by rw [e, show (4 : Int32).toInt = 4 by decide] at h2; omega)]
  rw [if_neg (fun e => by rw [e, show (5 : Int32).toInt = 5 by decide] at h2; omega)]
  rw [if_neg (fun e => by rw [e, show (6 : Int32).toInt = 6 by decide] at h2; omega)]
theorem f_owed (h : m_X8_isHolder x1 = 0 ∨ m_X8_isHolder x2 = 0 ∨ m_X8_isKind x3 = 0 ∨ m_X8_isPart x4 = 0) : (m_X8_owed z x1 x2 x3 x4).1 = 1 := by
  unfold m_X8_owed
  split
  · rfl
  split
  · rfl
  split
  · rfl
  split
  · rfl
  · rename_i a b c d
    exact absurd h (fun h => h.elim a (fun h => h.elim b (fun h => h.elim c d)))
theorem f_core1 (h : m_X8_isHolder x1 = 0) : (m_X8_core z x1 x2 x3).1 = 1 := by
  unfold m_X8_core
  rw [if_pos h]
theorem f_core2 (h : ¬ m_X8_isHolder x1 = 0) (h2 : x2.toInt < 0 ∨ x3.toInt < 0 ∨ 1 < x3.toInt) : (m_X8_core z x1 x2 x3).1 = 2 := by
  unfold m_X8_core
  rw [if_neg h]
  simp only [i32_lt, i32_lt, i32_0, i32_le, i32_1]
  split
  · rfl
  split
  · rfl
  rw [if_neg (by omega)]
theorem f_setting (h : m_X8_isSetting x1 = 0) : (m_X8_setting z x1).1 = 2 := by
  unfold m_X8_setting
  rw [if_pos h]
theorem f_complete (h : m_X8_isHolder x1 = 0 ∨ m_X8_isKind x2 = 0) : (m_X8_complete z x1 x2).1 = 1 := by
  unfold m_X8_complete
  split
  · rfl
  split
  · rfl
  · rename_i a b
    exact absurd h (fun h => h.elim a b)
theorem f_takings (h : m_X8_isHolder x1 = 0 ∨ m_X8_isKind x2 = 0) : (m_X8_takings z x1 x2).1 = 1 := by
  unfold m_X8_takings
  split
  · rfl
  split
  · rfl
  · rename_i a b
    exact absurd h (fun h => h.elim a b)
theorem f_cheapest (h : m_X8_isHolder x1 = 0 ∨ m_X8_isKind x2 = 0) : (m_X8_cheapest z x1 x2).1 = 1 := by
  unfold m_X8_cheapest
  split
  · rfl
  split
  · rfl
  · rename_i a b
    exact absurd h (fun h => h.elim a b)
theorem f_bill1 (h : m_X8_isHolder x1 = 0) : (m_X8_bill z x1 x2).1 = 1 := by
  unfold m_X8_bill
  rw [if_pos h]
theorem f_bill2 (h : ¬ m_X8_isHolder x1 = 0) (h2 : x2.toInt < 0 ∨ 99 < x2.toInt) : (m_X8_bill z x1 x2).1 = 2 := by
  unfold m_X8_bill
  rw [if_neg h]
  simp only [i32_lt, i32_0, i32_le, ii99]
  split
  · rfl
  rw [if_neg (by omega)]
theorem f_save (h : m_X8_isSlot x1 = 0) : (m_X8_save z x1).1 = 1 := by
  unfold m_X8_save
  rw [if_pos h]
theorem f_restore (h : m_X8_isSlot x1 = 0) : (m_X8_restore z x1).1 = 1 := by
  unfold m_X8_restore
  rw [if_pos h]
theorem f_append (h : 255 < x1.toInt) : (m_X8_append z x1).1 = 2 := by
  unfold m_X8_append
  simp only [i32_lt, i32_0, i32_le, show (255 : Int32).toInt = 255 by decide]
  split
  · rfl
  rw [if_neg (by omega)]
theorem f_come1 (h : m_X8_isKind x1 = 0 ∨ m_X8_isHolder x2 = 0) : (m_X8_come z x1 x2 x3).1 = 1 := by
  rw [fn_come]
  refine fn_c.1 ?_
  unfold m_X5_tryCome
  split
  · rfl
  split
  · rfl
  · rename_i a b
    exact absurd h (fun h => h.elim a b)
theorem f_come2 (h1 : ¬ m_X8_isKind x1 = 0) (h2 : ¬ m_X8_isHolder x2 = 0) (h3 : 7 < x3.toInt) : (m_X8_come z x1 x2 x3).1 = 2 := by
  rw [fn_come]
  refine fn_c.2.1 ?_
  unfold m_X5_tryCome
  rw [if_neg h1, if_neg h2]
  simp only [i32_lt, i32_0, i32_le, ii7]
  split
  · rfl
  rw [if_neg (by omega)]
theorem f_come3 (h1 : ¬ m_X8_isKind x1 = 0) (h2 : ¬ m_X8_isHolder x2 = 0) (h3 : iv 0 7 x3) (h4 : 16 ≤ (uN (sU (pN z))).toInt) : (m_X8_come z x1 x2 x3).1 = 3 := by
  rw [fn_come]
  refine fn_c.2.2 ?_
  have a := h3.1
  have b := h3.2
  unfold m_X5_tryCome
  rw [if_neg h1, if_neg h2]
  simp only [i32_lt, i32_0, i32_le, ii7]
  rw [if_neg (by omega), if_pos (by omega)]
  simp only [i32_lt, ii16]
  rw [if_neg (by omega)]
theorem f_lend1 (h : m_X7_has (sU (pN z)) x1 = 0 ∨ m_X8_isHolder x2 = 0) : (m_X8_lend z x1 x2 x3).1 = 1 := by
  rw [fn_lend]
  refine fn_c.1 ?_
  unfold m_X5_tryLend
  split
  · rfl
  split
  · rfl
  · rename_i a b
    exact absurd h (fun h => h.elim a b)
theorem f_lend2 (h1 : ¬ m_X7_has (sU (pN z)) x1 = 0) (h2 : ¬ m_X8_isHolder x2 = 0) (h3 : m_X8_isTerm x3 = 0) : (m_X8_lend z x1 x2 x3).1 = 2 := by
  rw [fn_lend]
  refine fn_c.2.1 ?_
  unfold m_X5_tryLend
  rw [if_neg h1, if_neg h2, if_pos h3]
theorem f_lend3 (h1 : ¬ m_X7_has (sU (pN z)) x1 = 0) (h2 : ¬ m_X8_isHolder x2 = 0) (h3 : ¬ m_X8_isTerm x3 = 0) (h4 : m_X7_isFree (sU (pN z)) x1 = 0 ∨ uO (sU (pN z)) x1.toNatClampNeg = x2) : (m_X8_lend z x1 x2 x3).1 = 3 := by
  rw [fn_lend]
  refine fn_c.2.2 ?_
  unfold m_X5_tryLend
  rw [if_neg h1, if_neg h2, if_neg h3]
  split
  · rfl
  split
  · rfl
  · rename_i a b
    exact absurd h4 (fun h => h.elim a b)
theorem f_bring1 (h : m_X7_has (sU (pN z)) x1 = 0) : (m_X8_bring z x1).1 = 1 := by
  rw [fn_bring]
  refine fn_c.1 ?_
  unfold m_X5_tryBring
  rw [if_pos h]
theorem f_bring3 (h1 : ¬ m_X7_has (sU (pN z)) x1 = 0) (h : ¬ m_X7_isFree (sU (pN z)) x1 = 0) : (m_X8_bring z x1).1 = 3 := by
  rw [fn_bring]
  refine fn_c.2.2 ?_
  unfold m_X5_tryBring
  rw [if_neg h1, if_neg h]
theorem f_exchange1 (h : m_X7_has (sU (pN z)) x1 = 0 ∨ m_X7_has (sU (pN z)) x2 = 0) : (m_X8_exchange z x1 x2).1 = 1 := by
  rw [fn_exchange]
  refine fn_c.1 ?_
  unfold m_X5_tryExchange
  split
  · rfl
  split
  · rfl
  · rename_i a b
    exact absurd h (fun h => h.elim a b)
theorem f_exchange3 (h : ¬ m_X7_has (sU (pN z)) x1 = 0) : (m_X8_exchange z x1 x1).1 = 3 := by
  rw [fn_exchange]
  refine fn_c.2.2 ?_
  unfold m_X5_tryExchange
  rw [if_neg h, if_neg h]
  split
  · rfl
  rename_i c1
  split
  · rfl
  rename_i c2
  exfalso
  unfold m_X7_isFreeCore at c1
  unfold m_X7_isGoodSpare at c2
  by_cases d1 : m_X7_isFree (sU (pN z)) x1 = 0
  · rw [if_pos d1] at c1; exact c1 rfl
  rw [if_neg d1] at c1 c2
  by_cases d2 : uO (sU (pN z)) x1.toNatClampNeg = 4
  · rw [if_pos d2] at c1; exact c1 rfl
  · by_cases d3 : m_X7_isUsable (sU (pN z)) x1 = 0
    · rw [if_pos d3] at c2; exact c2 rfl
    · rw [if_neg d3, if_neg d2] at c2; exact c2 rfl
theorem f_advance1 (h : m_X8_isHolder x1 = 0 ∨ m_X7_has (sU (pN z)) x2 = 0) : (m_X8_advance z x1 x2 x3).1 = 1 := by
  rw [fn_advance]
  refine fn_c.1 ?_
  unfold m_X5_tryAdvance
  split
  · rfl
  split
  · rfl
  · rename_i a b
    exact absurd h (fun h => h.elim a b)
theorem f_advance2 (h1 : ¬ m_X8_isHolder x1 = 0) (h2 : ¬ m_X7_has (sU (pN z)) x2 = 0) (h3 : m_X8_isTerm x3 = 0) : (m_X8_advance z x1 x2 x3).1 = 2 := by
  rw [fn_advance]
  refine fn_c.2.1 ?_
  unfold m_X5_tryAdvance
  rw [if_neg h1, if_neg h2, if_pos h3]
theorem f_advance3 (h2 : ¬ m_X7_has (sU (pN z)) x2 = 0) (h3 : ¬ m_X8_isTerm x3 = 0) : (m_X8_advance z 4 x2 x3).1 = 3 := by
  rw [fn_advance]
  refine fn_c.2.2 ?_
  unfold m_X5_tryAdvance
  rw [if_neg (holdI iv_4), if_neg h2, if_neg h3, if_pos rfl]
theorem f_deliver1 (h : m_X7_has (sU (pN z)) x1 = 0) : (m_X8_deliver z x1).1 = 1 := by
  rw [fn_deliver]
  refine fn_c.1 ?_
  unfold m_X5_tryDeliver
  rw [if_pos h]
theorem f_deliver3 (h1 : ¬ m_X7_has (sU (pN z)) x1 = 0) (h : m_X7_isFree (sU (pN z)) x1 = 0) : (m_X8_deliver z x1).1 = 3 := by
  rw [fn_deliver]
  refine fn_c.2.2 ?_
  unfold m_X5_tryDeliver
  rw [if_neg h1, if_pos (by unfold m_X7_isFreeCore; rw [if_pos h])]
theorem f_take1 (h : m_X7_has (sU (pN z)) x1 = 0 ∨ m_X7_has (sU (pN z)) x2 = 0 ∨ m_X8_isPart x3 = 0) : (m_X8_take z x1 x2 x3).1 = 1 := by
  rw [fn_take]
  refine fn_c.1 ?_
  unfold m_X5_tryTake
  split
  · rfl
  split
  · rfl
  split
  · rfl
  · rename_i a b c
    exact absurd h (fun h => h.elim a (fun h => h.elim b c))
theorem f_take3 (h1 : ¬ m_X7_has (sU (pN z)) x1 = 0) (h3 : ¬ m_X8_isPart x3 = 0) : (m_X8_take z x1 x1 x3).1 = 3 := by
  rw [fn_take]
  refine fn_c.2.2 ?_
  unfold m_X5_tryTake
  rw [if_neg h1, if_neg h1, if_neg h3]
  split
  · rfl
  split
  · rfl
  · rfl
theorem f_settle1 (h : m_X8_isHolder x1 = 0 ∨ m_X8_isHolder x2 = 0 ∨ m_X8_isKind x3 = 0 ∨ m_X8_isPart x4 = 0) : (m_X8_settle z x1 x2 x3 x4).1 = 1 := by
  rw [fn_settle]
  refine fn_c.1 ?_
  unfold m_X5_trySettle
  split
  · rfl
  split
  · rfl
  split
  · rfl
  split
  · rfl
  · rename_i a b c d
    exact absurd h (fun h => h.elim a (fun h => h.elim b (fun h => h.elim c d)))
theorem f_settle3 {T : Int} (g : SG T (pN z)) (h1 : iv 0 4 x1) (h3 : iv 0 2 x3) (h4 : iv 0 2 x4) : (m_X8_settle z x1 x1 x3 x4).1 = 3 := by
  rw [fn_settle]
  refine fn_c.2.2 ?_
  unfold m_X5_trySettle
  rw [if_neg (holdI h1), if_neg (holdI h1), if_neg (is_kind h3), if_neg (is_part h4), if_pos ?_]
  rw [betw_eq h1 h1 h3 h4, dix_q]
  have l1 := tnc4 h1
  have l3 := tnc2 h3
  have l4 := tnc2 h4
  exact (g.2.2.1.2 _ _ _ l1 l1 (by omega)).elim id id
theorem f_buy1 (h : m_X7_has (sU (pN z)) x1 = 0 ∨ m_X8_isPart x2 = 0) : (m_X8_buy z x1 x2).1 = 1 := by
  rw [fn_buy]
  refine fn_c.1 ?_
  unfold m_X5_tryBuy
  split
  · rfl
  split
  · rfl
  · rename_i a b
    exact absurd h (fun h => h.elim a b)
theorem f_buy3 (h1 : ¬ m_X7_has (sU (pN z)) x1 = 0) (h2 : ¬ m_X8_isPart x2 = 0) (h : ¬ m_X7_hasPart (sU (pN z)) x1 x2 = 0) : (m_X8_buy z x1 x2).1 = 3 := by
  rw [fn_buy]
  refine fn_c.2.2 ?_
  unfold m_X5_tryBuy
  rw [if_neg h1, if_neg h2, if_neg h]
theorem f_days (h : x1.toInt < 1 ∨ 99 < x1.toInt) : (m_X8_days z x1).1 = 2 := by
  rw [fn_days]
  refine fn_c.2.1 ?_
  unfold m_X5_tryDays
  simp only [i32_lt, i32_1, i32_le, ii99]
  split
  · rfl
  rw [if_neg (by omega)]
theorem f_set (h : m_X8_isSetting x1 = 0 ∨ x2.toInt < 0 ∨ (fxM x1.toNatClampNeg).toInt < x2.toInt) : (m_X8_set z x1 x2).1 = 2 := by
  rw [fn_set]
  refine fn_c.2.1 ?_
  unfold m_X5_trySet
  split
  · rfl
  rename_i a
  simp only [i32_lt, i32_0, i32_le]
  split
  · rfl
  rename_i b
  rw [if_neg]
  exact fun c => h.elim a (fun h => h.elim b (fun h => by omega))
theorem f_script {s : Int64} (h : 3 < x1.toInt ∨ s.toInt < 0 ∨ (m_X3_limit x1).toInt ≤ s.toInt) : (m_X8_runScript z x1 s).1 = 2 := by
  unfold m_X8_runScript
  split
  · rfl
  split
  · rfl
  rename_i a
  rw [i32_lt, ii3] at a
  have n0 : ∀ y : Int64, lg_cmp s y < 0 ↔ s.toInt < y.toInt := fun y => by
    unfold lg_cmp
    by_cases c : s > y
    · rw [if_pos c, gt_iff_lt, Int64.lt_iff_toInt_lt] at *
      exact ⟨fun q => absurd q (by decide), fun q => by omega⟩
    · rw [if_neg c]
      rw [gt_iff_lt, Int64.lt_iff_toInt_lt] at c
      by_cases d : s = y
      · rw [if_pos d, d]
        exact ⟨fun q => absurd q (by decide), fun q => by omega⟩
      · rw [if_neg d]
        have : ¬ s.toInt = y.toInt := fun e => d (Int64.toInt_inj.mp e)
        exact ⟨fun _ => by omega, fun _ => by decide⟩
  split
  · rfl
  rename_i b
  rw [n0, show (0 : Int64).toInt = 0 by decide] at b
  rw [if_neg (by rw [n0]; omega)]
theorem f_simulate {s : Int64} (h : x2.toInt < 1 ∨ 99 < x2.toInt) : (m_X8_simulate z s x2).1 = 2 := by
  unfold m_X8_simulate
  simp only [i32_lt, i32_1, i32_le, ii99]
  split
  · rfl
  rw [if_neg (by omega)]
theorem f_load (h : ¬ (m_X6_firstError (pT z)).1 = -1) : (m_X8_load z).1 = 3 := by
  unfold m_X8_load
  rw [if_neg h]
theorem kv_about1 : kV (callP z 2 1 x2 x3) = uN (sU (pN z)) := rfl
theorem kv_unit {v : Int32} (h : ¬ m_X7_has (sU (pN z)) x1 = 0) : kV (callP z 3 x1 0 v) = uK (sU (pN z)) x1.toNatClampNeg ∧ kV (callP z 3 x1 1 v) = uO (sU (pN z)) x1.toNatClampNeg ∧ kV (callP z 3 x1 2 v) = uP (sU (pN z)) x1.toNatClampNeg ∧ kV (callP z 3 x1 3 v) = uQ (sU (pN z)) x1.toNatClampNeg ∧ kV (callP z 3 x1 5 v) = m_X5_feesFor (pN z) x1 0 := by
  show kV (m_X8_unit z x1 0) = _ ∧ kV (m_X8_unit z x1 1) = _ ∧ kV (m_X8_unit z x1 2) = _ ∧ kV (m_X8_unit z x1 3) = _ ∧ kV (m_X8_unit z x1 5) = _
  unfold m_X8_unit
  rw [if_neg h, if_neg h, if_neg h, if_neg h, if_neg h]
  exact ⟨rfl, rfl, rfl, rfl, rfl⟩
end RFS
