/-! p35: the law's calls that are refused, or only ask -/
theorem cp_0 {z : SpT} {a b c : Int32} : callP z 0 a b c = m_X8_append z a := rfl
theorem r1_0 {z : SpT} {a b c : Int32} (h : (m_X8_append z a).1 = 1) : RF z 0 a b c (-9999001) := rf1 (by rw [cp_0]; exact h)
theorem r2_0 {z : SpT} {a b c : Int32} (h : (m_X8_append z a).1 = 2) : RF z 0 a b c (-9999002) := rf2 (by rw [cp_0]; exact h)
theorem r3_0 {z : SpT} {a b c : Int32} (h : (m_X8_append z a).1 = 3) : RF z 0 a b c (-9999003) := rf3 (by rw [cp_0]; exact h)
theorem cp_1 {z : SpT} {a b c : Int32} : callP z 1 a b c = m_X8_load z := rfl
theorem r1_1 {z : SpT} {a b c : Int32} (h : (m_X8_load z).1 = 1) : RF z 1 a b c (-9999001) := rf1 (by rw [cp_1]; exact h)
theorem r2_1 {z : SpT} {a b c : Int32} (h : (m_X8_load z).1 = 2) : RF z 1 a b c (-9999002) := rf2 (by rw [cp_1]; exact h)
theorem r3_1 {z : SpT} {a b c : Int32} (h : (m_X8_load z).1 = 3) : RF z 1 a b c (-9999003) := rf3 (by rw [cp_1]; exact h)
theorem cp_2 {z : SpT} {a b c : Int32} : callP z 2 a b c = m_X8_about z a := rfl
theorem r1_2 {z : SpT} {a b c : Int32} (h : (m_X8_about z a).1 = 1) : RF z 2 a b c (-9999001) := rf1 (by rw [cp_2]; exact h)
theorem r2_2 {z : SpT} {a b c : Int32} (h : (m_X8_about z a).1 = 2) : RF z 2 a b c (-9999002) := rf2 (by rw [cp_2]; exact h)
theorem r3_2 {z : SpT} {a b c : Int32} (h : (m_X8_about z a).1 = 3) : RF z 2 a b c (-9999003) := rf3 (by rw [cp_2]; exact h)
theorem cp_3 {z : SpT} {a b c : Int32} : callP z 3 a b c = m_X8_unit z a b := rfl
theorem r1_3 {z : SpT} {a b c : Int32} (h : (m_X8_unit z a b).1 = 1) : RF z 3 a b c (-9999001) := rf1 (by rw [cp_3]; exact h)
theorem r2_3 {z : SpT} {a b c : Int32} (h : (m_X8_unit z a b).1 = 2) : RF z 3 a b c (-9999002) := rf2 (by rw [cp_3]; exact h)
theorem r3_3 {z : SpT} {a b c : Int32} (h : (m_X8_unit z a b).1 = 3) : RF z 3 a b c (-9999003) := rf3 (by rw [cp_3]; exact h)
theorem cp_4 {z : SpT} {a b c : Int32} : callP z 4 a b c = m_X8_holder z a b := rfl
theorem r1_4 {z : SpT} {a b c : Int32} (h : (m_X8_holder z a b).1 = 1) : RF z 4 a b c (-9999001) := rf1 (by rw [cp_4]; exact h)
theorem r2_4 {z : SpT} {a b c : Int32} (h : (m_X8_holder z a b).1 = 2) : RF z 4 a b c (-9999002) := rf2 (by rw [cp_4]; exact h)
theorem r3_4 {z : SpT} {a b c : Int32} (h : (m_X8_holder z a b).1 = 3) : RF z 4 a b c (-9999003) := rf3 (by rw [cp_4]; exact h)
theorem cp_5 {z : SpT} {a b c : Int32} : callP z 5 a b c = m_X8_core z a b c := rfl
theorem r1_5 {z : SpT} {a b c : Int32} (h : (m_X8_core z a b c).1 = 1) : RF z 5 a b c (-9999001) := rf1 (by rw [cp_5]; exact h)
theorem r2_5 {z : SpT} {a b c : Int32} (h : (m_X8_core z a b c).1 = 2) : RF z 5 a b c (-9999002) := rf2 (by rw [cp_5]; exact h)
theorem r3_5 {z : SpT} {a b c : Int32} (h : (m_X8_core z a b c).1 = 3) : RF z 5 a b c (-9999003) := rf3 (by rw [cp_5]; exact h)
theorem cp_6 {z : SpT} {a b c : Int32} : callP z 6 a b c = m_X8_setting z a := rfl
theorem r1_6 {z : SpT} {a b c : Int32} (h : (m_X8_setting z a).1 = 1) : RF z 6 a b c (-9999001) := rf1 (by rw [cp_6]; exact h)
theorem r2_6 {z : SpT} {a b c : Int32} (h : (m_X8_setting z a).1 = 2) : RF z 6 a b c (-9999002) := rf2 (by rw [cp_6]; exact h)
theorem r3_6 {z : SpT} {a b c : Int32} (h : (m_X8_setting z a).1 = 3) : RF z 6 a b c (-9999003) := rf3 (by rw [cp_6]; exact h)
theorem cp_7 {z : SpT} {a b c : Int32} : callP z 7 a b c = m_X8_come z a b c := rfl
theorem r1_7 {z : SpT} {a b c : Int32} (h : (m_X8_come z a b c).1 = 1) : RF z 7 a b c (-9999001) := rf1 (by rw [cp_7]; exact h)
theorem r2_7 {z : SpT} {a b c : Int32} (h : (m_X8_come z a b c).1 = 2) : RF z 7 a b c (-9999002) := rf2 (by rw [cp_7]; exact h)
theorem r3_7 {z : SpT} {a b c : Int32} (h : (m_X8_come z a b c).1 = 3) : RF z 7 a b c (-9999003) := rf3 (by rw [cp_7]; exact h)
theorem cp_8 {z : SpT} {a b c : Int32} : callP z 8 a b c = m_X8_lend z a b c := rfl
theorem r1_8 {z : SpT} {a b c : Int32} (h : (m_X8_lend z a b c).1 = 1) : RF z 8 a b c (-9999001) := rf1 (by rw [cp_8]; exact h)
theorem r2_8 {z : SpT} {a b c : Int32} (h : (m_X8_lend z a b c).1 = 2) : RF z 8 a b c (-9999002) := rf2 (by rw [cp_8]; exact h)
theorem r3_8 {z : SpT} {a b c : Int32} (h : (m_X8_lend z a b c).1 = 3) : RF z 8 a b c (-9999003) := rf3 (by rw [cp_8]; exact h)
theorem cp_9 {z : SpT} {a b c : Int32} : callP z 9 a b c = m_X8_bring z a := rfl
theorem r1_9 {z : SpT} {a b c : Int32} (h : (m_X8_bring z a).1 = 1) : RF z 9 a b c (-9999001) := rf1 (by rw [cp_9]; exact h)
theorem r2_9 {z : SpT} {a b c : Int32} (h : (m_X8_bring z a).1 = 2) : RF z 9 a b c (-9999002) := rf2 (by rw [cp_9]; exact h)
theorem r3_9 {z : SpT} {a b c : Int32} (h : (m_X8_bring z a).1 = 3) : RF z 9 a b c (-9999003) := rf3 (by rw [cp_9]; exact h)
theorem cp_10 {z : SpT} {a b c : Int32} : callP z 10 a b c = m_X8_exchange z a b := rfl
theorem r1_10 {z : SpT} {a b c : Int32} (h : (m_X8_exchange z a b).1 = 1) : RF z 10 a b c (-9999001) := rf1 (by rw [cp_10]; exact h)
theorem r2_10 {z : SpT} {a b c : Int32} (h : (m_X8_exchange z a b).1 = 2) : RF z 10 a b c (-9999002) := rf2 (by rw [cp_10]; exact h)
theorem r3_10 {z : SpT} {a b c : Int32} (h : (m_X8_exchange z a b).1 = 3) : RF z 10 a b c (-9999003) := rf3 (by rw [cp_10]; exact h)
theorem cp_11 {z : SpT} {a b c : Int32} : callP z 11 a b c = m_X8_advance z a b c := rfl
theorem r1_11 {z : SpT} {a b c : Int32} (h : (m_X8_advance z a b c).1 = 1) : RF z 11 a b c (-9999001) := rf1 (by rw [cp_11]; exact h)
theorem r2_11 {z : SpT} {a b c : Int32} (h : (m_X8_advance z a b c).1 = 2) : RF z 11 a b c (-9999002) := rf2 (by rw [cp_11]; exact h)
theorem r3_11 {z : SpT} {a b c : Int32} (h : (m_X8_advance z a b c).1 = 3) : RF z 11 a b c (-9999003) := rf3 (by rw [cp_11]; exact h)
theorem cp_12 {z : SpT} {a b c : Int32} : callP z 12 a b c = m_X8_deliver z a := rfl
theorem r1_12 {z : SpT} {a b c : Int32} (h : (m_X8_deliver z a).1 = 1) : RF z 12 a b c (-9999001) := rf1 (by rw [cp_12]; exact h)
theorem r2_12 {z : SpT} {a b c : Int32} (h : (m_X8_deliver z a).1 = 2) : RF z 12 a b c (-9999002) := rf2 (by rw [cp_12]; exact h)
theorem r3_12 {z : SpT} {a b c : Int32} (h : (m_X8_deliver z a).1 = 3) : RF z 12 a b c (-9999003) := rf3 (by rw [cp_12]; exact h)
theorem cp_13 {z : SpT} {a b c : Int32} : callP z 13 a b c = m_X8_take z a b c := rfl
theorem r1_13 {z : SpT} {a b c : Int32} (h : (m_X8_take z a b c).1 = 1) : RF z 13 a b c (-9999001) := rf1 (by rw [cp_13]; exact h)
theorem r2_13 {z : SpT} {a b c : Int32} (h : (m_X8_take z a b c).1 = 2) : RF z 13 a b c (-9999002) := rf2 (by rw [cp_13]; exact h)
theorem r3_13 {z : SpT} {a b c : Int32} (h : (m_X8_take z a b c).1 = 3) : RF z 13 a b c (-9999003) := rf3 (by rw [cp_13]; exact h)
theorem cp_14 {z : SpT} {a b c : Int32} : callP z 14 a b c = m_X8_buy z a b := rfl
theorem r1_14 {z : SpT} {a b c : Int32} (h : (m_X8_buy z a b).1 = 1) : RF z 14 a b c (-9999001) := rf1 (by rw [cp_14]; exact h)
theorem r2_14 {z : SpT} {a b c : Int32} (h : (m_X8_buy z a b).1 = 2) : RF z 14 a b c (-9999002) := rf2 (by rw [cp_14]; exact h)
theorem r3_14 {z : SpT} {a b c : Int32} (h : (m_X8_buy z a b).1 = 3) : RF z 14 a b c (-9999003) := rf3 (by rw [cp_14]; exact h)
theorem cp_15 {z : SpT} {a b c : Int32} : callP z 15 a b c = m_X8_days z a := rfl
theorem r1_15 {z : SpT} {a b c : Int32} (h : (m_X8_days z a).1 = 1) : RF z 15 a b c (-9999001) := rf1 (by rw [cp_15]; exact h)
theorem r2_15 {z : SpT} {a b c : Int32} (h : (m_X8_days z a).1 = 2) : RF z 15 a b c (-9999002) := rf2 (by rw [cp_15]; exact h)
theorem r3_15 {z : SpT} {a b c : Int32} (h : (m_X8_days z a).1 = 3) : RF z 15 a b c (-9999003) := rf3 (by rw [cp_15]; exact h)
theorem cp_16 {z : SpT} {a b c : Int32} : callP z 16 a b c = m_X8_set z a b := rfl
theorem r1_16 {z : SpT} {a b c : Int32} (h : (m_X8_set z a b).1 = 1) : RF z 16 a b c (-9999001) := rf1 (by rw [cp_16]; exact h)
theorem r2_16 {z : SpT} {a b c : Int32} (h : (m_X8_set z a b).1 = 2) : RF z 16 a b c (-9999002) := rf2 (by rw [cp_16]; exact h)
theorem r3_16 {z : SpT} {a b c : Int32} (h : (m_X8_set z a b).1 = 3) : RF z 16 a b c (-9999003) := rf3 (by rw [cp_16]; exact h)
theorem cp_17 {z : SpT} {a b c : Int32} : callP z 17 a b c = m_X8_undo z := rfl
theorem r1_17 {z : SpT} {a b c : Int32} (h : (m_X8_undo z).1 = 1) : RF z 17 a b c (-9999001) := rf1 (by rw [cp_17]; exact h)
theorem r2_17 {z : SpT} {a b c : Int32} (h : (m_X8_undo z).1 = 2) : RF z 17 a b c (-9999002) := rf2 (by rw [cp_17]; exact h)
theorem r3_17 {z : SpT} {a b c : Int32} (h : (m_X8_undo z).1 = 3) : RF z 17 a b c (-9999003) := rf3 (by rw [cp_17]; exact h)
theorem cp_18 {z : SpT} {a b c : Int32} : callP z 18 a b c = m_X8_complete z a b := rfl
theorem r1_18 {z : SpT} {a b c : Int32} (h : (m_X8_complete z a b).1 = 1) : RF z 18 a b c (-9999001) := rf1 (by rw [cp_18]; exact h)
theorem r2_18 {z : SpT} {a b c : Int32} (h : (m_X8_complete z a b).1 = 2) : RF z 18 a b c (-9999002) := rf2 (by rw [cp_18]; exact h)
theorem r3_18 {z : SpT} {a b c : Int32} (h : (m_X8_complete z a b).1 = 3) : RF z 18 a b c (-9999003) := rf3 (by rw [cp_18]; exact h)
theorem cp_19 {z : SpT} {a b c : Int32} : callP z 19 a b c = m_X8_takings z a b := rfl
theorem r1_19 {z : SpT} {a b c : Int32} (h : (m_X8_takings z a b).1 = 1) : RF z 19 a b c (-9999001) := rf1 (by rw [cp_19]; exact h)
theorem r2_19 {z : SpT} {a b c : Int32} (h : (m_X8_takings z a b).1 = 2) : RF z 19 a b c (-9999002) := rf2 (by rw [cp_19]; exact h)
theorem r3_19 {z : SpT} {a b c : Int32} (h : (m_X8_takings z a b).1 = 3) : RF z 19 a b c (-9999003) := rf3 (by rw [cp_19]; exact h)
theorem cp_20 {z : SpT} {a b c : Int32} : callP z 20 a b c = m_X8_bill z a b := rfl
theorem r1_20 {z : SpT} {a b c : Int32} (h : (m_X8_bill z a b).1 = 1) : RF z 20 a b c (-9999001) := rf1 (by rw [cp_20]; exact h)
theorem r2_20 {z : SpT} {a b c : Int32} (h : (m_X8_bill z a b).1 = 2) : RF z 20 a b c (-9999002) := rf2 (by rw [cp_20]; exact h)
theorem r3_20 {z : SpT} {a b c : Int32} (h : (m_X8_bill z a b).1 = 3) : RF z 20 a b c (-9999003) := rf3 (by rw [cp_20]; exact h)
theorem cp_21 {z : SpT} {a b c : Int32} : callP z 21 a b c = m_X8_cheapest z a b := rfl
theorem r1_21 {z : SpT} {a b c : Int32} (h : (m_X8_cheapest z a b).1 = 1) : RF z 21 a b c (-9999001) := rf1 (by rw [cp_21]; exact h)
theorem r2_21 {z : SpT} {a b c : Int32} (h : (m_X8_cheapest z a b).1 = 2) : RF z 21 a b c (-9999002) := rf2 (by rw [cp_21]; exact h)
theorem r3_21 {z : SpT} {a b c : Int32} (h : (m_X8_cheapest z a b).1 = 3) : RF z 21 a b c (-9999003) := rf3 (by rw [cp_21]; exact h)
theorem cp_22 {z : SpT} {a b c : Int32} : callP z 22 a b c = m_X8_save z a := rfl
theorem r1_22 {z : SpT} {a b c : Int32} (h : (m_X8_save z a).1 = 1) : RF z 22 a b c (-9999001) := rf1 (by rw [cp_22]; exact h)
theorem r2_22 {z : SpT} {a b c : Int32} (h : (m_X8_save z a).1 = 2) : RF z 22 a b c (-9999002) := rf2 (by rw [cp_22]; exact h)
theorem r3_22 {z : SpT} {a b c : Int32} (h : (m_X8_save z a).1 = 3) : RF z 22 a b c (-9999003) := rf3 (by rw [cp_22]; exact h)
theorem cp_23 {z : SpT} {a b c : Int32} : callP z 23 a b c = m_X8_restore z a := rfl
theorem r1_23 {z : SpT} {a b c : Int32} (h : (m_X8_restore z a).1 = 1) : RF z 23 a b c (-9999001) := rf1 (by rw [cp_23]; exact h)
theorem r2_23 {z : SpT} {a b c : Int32} (h : (m_X8_restore z a).1 = 2) : RF z 23 a b c (-9999002) := rf2 (by rw [cp_23]; exact h)
theorem r3_23 {z : SpT} {a b c : Int32} (h : (m_X8_restore z a).1 = 3) : RF z 23 a b c (-9999003) := rf3 (by rw [cp_23]; exact h)
theorem cn_0 (l : Launch) (hl0 : l.stackTraces = false) (D : va_G) (cy : Nat → ClassId) (t : FxA) (xa sa sb tr na : Nat → Nat) (ka : Nat → Nat → Nat) {z0 z : SpT} (oz : OKz z ∧ VIS z0 z) (a b c : Int32) {v : Int32} (r : RF z 0 a b c v) : ∃ z2 : SpT, (OKz z2 ∧ VIS z0 z2) ∧ HW 9 1 6 240 l D cy t yL_call wc_call (wSp cy xa sa sb tr na ka z) (wSp cy xa sa sb tr na ka z2) [.ref (xa 0), .int (0 : Int32), .int a, .int b, .int c] v := by
  have v1 := call_vis (a := a) (b := b) (c := c) oz.1 0 (by decide) r.2
  have h := c_L_call_0 l hl0 D cy t xa sa sb tr na ka oz.1 a b c
  rw [r.1] at h
  exact ⟨_, ⟨v1.ok oz.1, oz.2.tr v1⟩, h⟩
theorem cn_1 (l : Launch) (hl0 : l.stackTraces = false) (D : va_G) (cy : Nat → ClassId) (t : FxA) (xa sa sb tr na : Nat → Nat) (ka : Nat → Nat → Nat) {z0 z : SpT} (oz : OKz z ∧ VIS z0 z) (a b c : Int32) {v : Int32} (r : RF z 1 a b c v) : ∃ z2 : SpT, (OKz z2 ∧ VIS z0 z2) ∧ HW 9 1 6 240 l D cy t yL_call wc_call (wSp cy xa sa sb tr na ka z) (wSp cy xa sa sb tr na ka z2) [.ref (xa 0), .int (1 : Int32), .int a, .int b, .int c] v := by
  have v1 := call_vis (a := a) (b := b) (c := c) oz.1 1 (by decide) r.2
  have h := c_L_call_1 l hl0 D cy t xa sa sb tr na ka oz.1 a b c
  rw [r.1] at h
  exact ⟨_, ⟨v1.ok oz.1, oz.2.tr v1⟩, h⟩
theorem cn_2 (l : Launch) (hl0 : l.stackTraces = false) (D : va_G) (cy : Nat → ClassId) (t : FxA) (xa sa sb tr na : Nat → Nat) (ka : Nat → Nat → Nat) {z0 z : SpT} (oz : OKz z ∧ VIS z0 z) (a b c : Int32) {v : Int32} (r : RF z 2 a b c v) : ∃ z2 : SpT, (OKz z2 ∧ VIS z0 z2) ∧ HW 9 1 6 240 l D cy t yL_call wc_call (wSp cy xa sa sb tr na ka z) (wSp cy xa sa sb tr na ka z2) [.ref (xa 0), .int (2 : Int32), .int a, .int b, .int c] v := by
  have v1 := call_vis (a := a) (b := b) (c := c) oz.1 2 (by decide) r.2
  have h := c_L_call_2 l hl0 D cy t xa sa sb tr na ka oz.1 a b c
  rw [r.1] at h
  exact ⟨_, ⟨v1.ok oz.1, oz.2.tr v1⟩, h⟩
theorem cn_3 (l : Launch) (hl0 : l.stackTraces = false) (D : va_G) (cy : Nat → ClassId) (t : FxA) (xa sa sb tr na : Nat → Nat) (ka : Nat → Nat → Nat) {z0 z : SpT} (oz : OKz z ∧ VIS z0 z) (a b c : Int32) {v : Int32} (r : RF z 3 a b c v) : ∃ z2 : SpT, (OKz z2 ∧ VIS z0 z2) ∧ HW 9 1 6 240 l D cy t yL_call wc_call (wSp cy xa sa sb tr na ka z) (wSp cy xa sa sb tr na ka z2) [.ref (xa 0), .int (3 : Int32), .int a, .int b, .int c] v := by
  have v1 := call_vis (a := a) (b := b) (c := c) oz.1 3 (by decide) r.2
  have h := c_L_call_3 l hl0 D cy t xa sa sb tr na ka oz.1 a b c
  rw [r.1] at h
  exact ⟨_, ⟨v1.ok oz.1, oz.2.tr v1⟩, h⟩
theorem cn_4 (l : Launch) (hl0 : l.stackTraces = false) (D : va_G) (cy : Nat → ClassId) (t : FxA) (xa sa sb tr na : Nat → Nat) (ka : Nat → Nat → Nat) {z0 z : SpT} (oz : OKz z ∧ VIS z0 z) (a b c : Int32) {v : Int32} (r : RF z 4 a b c v) : ∃ z2 : SpT, (OKz z2 ∧ VIS z0 z2) ∧ HW 9 1 6 240 l D cy t yL_call wc_call (wSp cy xa sa sb tr na ka z) (wSp cy xa sa sb tr na ka z2) [.ref (xa 0), .int (4 : Int32), .int a, .int b, .int c] v := by
  have v1 := call_vis (a := a) (b := b) (c := c) oz.1 4 (by decide) r.2
  have h := c_L_call_4 l hl0 D cy t xa sa sb tr na ka oz.1 a b c
  rw [r.1] at h
  exact ⟨_, ⟨v1.ok oz.1, oz.2.tr v1⟩, h⟩
theorem cn_5 (l : Launch) (hl0 : l.stackTraces = false) (D : va_G) (cy : Nat → ClassId) (t : FxA) (xa sa sb tr na : Nat → Nat) (ka : Nat → Nat → Nat) {z0 z : SpT} (oz : OKz z ∧ VIS z0 z) (a b c : Int32) {v : Int32} (r : RF z 5 a b c v) : ∃ z2 : SpT, (OKz z2 ∧ VIS z0 z2) ∧ HW 9 1 6 240 l D cy t yL_call wc_call (wSp cy xa sa sb tr na ka z) (wSp cy xa sa sb tr na ka z2) [.ref (xa 0), .int (5 : Int32), .int a, .int b, .int c] v := by
  have v1 := call_vis (a := a) (b := b) (c := c) oz.1 5 (by decide) r.2
  have h := c_L_call_5 l hl0 D cy t xa sa sb tr na ka oz.1 a b c
  rw [r.1] at h
  exact ⟨_, ⟨v1.ok oz.1, oz.2.tr v1⟩, h⟩
theorem cn_6 (l : Launch) (hl0 : l.stackTraces = false) (D : va_G) (cy : Nat → ClassId) (t : FxA) (xa sa sb tr na : Nat → Nat) (ka : Nat → Nat → Nat) {z0 z : SpT} (oz : OKz z ∧ VIS z0 z) (a b c : Int32) {v : Int32} (r : RF z 6 a b c v) : ∃ z2 : SpT, (OKz z2 ∧ VIS z0 z2) ∧ HW 9 1 6 240 l D cy t yL_call wc_call (wSp cy xa sa sb tr na ka z) (wSp cy xa sa sb tr na ka z2) [.ref (xa 0), .int (6 : Int32), .int a, .int b, .int c] v := by
  have v1 := call_vis (a := a) (b := b) (c := c) oz.1 6 (by decide) r.2
  have h := c_L_call_6 l hl0 D cy t xa sa sb tr na ka oz.1 a b c
  rw [r.1] at h
  exact ⟨_, ⟨v1.ok oz.1, oz.2.tr v1⟩, h⟩
theorem cn_7 (l : Launch) (hl0 : l.stackTraces = false) (D : va_G) (cy : Nat → ClassId) (t : FxA) (xa sa sb tr na : Nat → Nat) (ka : Nat → Nat → Nat) {z0 z : SpT} (oz : OKz z ∧ VIS z0 z) (a b c : Int32) {v : Int32} (r : RF z 7 a b c v) : ∃ z2 : SpT, (OKz z2 ∧ VIS z0 z2) ∧ HW 9 1 6 240 l D cy t yL_call wc_call (wSp cy xa sa sb tr na ka z) (wSp cy xa sa sb tr na ka z2) [.ref (xa 0), .int (7 : Int32), .int a, .int b, .int c] v := by
  have v1 := call_vis (a := a) (b := b) (c := c) oz.1 7 (by decide) r.2
  have h := c_L_call_7 l hl0 D cy t xa sa sb tr na ka oz.1 a b c
  rw [r.1] at h
  exact ⟨_, ⟨v1.ok oz.1, oz.2.tr v1⟩, h⟩
theorem cn_8 (l : Launch) (hl0 : l.stackTraces = false) (D : va_G) (cy : Nat → ClassId) (t : FxA) (xa sa sb tr na : Nat → Nat) (ka : Nat → Nat → Nat) {z0 z : SpT} (oz : OKz z ∧ VIS z0 z) (a b c : Int32) {v : Int32} (r : RF z 8 a b c v) : ∃ z2 : SpT, (OKz z2 ∧ VIS z0 z2) ∧ HW 9 1 6 240 l D cy t yL_call wc_call (wSp cy xa sa sb tr na ka z) (wSp cy xa sa sb tr na ka z2) [.ref (xa 0), .int (8 : Int32), .int a, .int b, .int c] v := by
  have v1 := call_vis (a := a) (b := b) (c := c) oz.1 8 (by decide) r.2
  have h := c_L_call_8 l hl0 D cy t xa sa sb tr na ka oz.1 a b c
  rw [r.1] at h
  exact ⟨_, ⟨v1.ok oz.1, oz.2.tr v1⟩, h⟩
theorem cn_9 (l : Launch) (hl0 : l.stackTraces = false) (D : va_G) (cy : Nat → ClassId) (t : FxA) (xa sa sb tr na : Nat → Nat) (ka : Nat → Nat → Nat) {z0 z : SpT} (oz : OKz z ∧ VIS z0 z) (a b c : Int32) {v : Int32} (r : RF z 9 a b c v) : ∃ z2 : SpT, (OKz z2 ∧ VIS z0 z2) ∧ HW 9 1 6 240 l D cy t yL_call wc_call (wSp cy xa sa sb tr na ka z) (wSp cy xa sa sb tr na ka z2) [.ref (xa 0), .int (9 : Int32), .int a, .int b, .int c] v := by
  have v1 := call_vis (a := a) (b := b) (c := c) oz.1 9 (by decide) r.2
  have h := c_L_call_9 l hl0 D cy t xa sa sb tr na ka oz.1 a b c
  rw [r.1] at h
  exact ⟨_, ⟨v1.ok oz.1, oz.2.tr v1⟩, h⟩
theorem cn_10 (l : Launch) (hl0 : l.stackTraces = false) (D : va_G) (cy : Nat → ClassId) (t : FxA) (xa sa sb tr na : Nat → Nat) (ka : Nat → Nat → Nat) {z0 z : SpT} (oz : OKz z ∧ VIS z0 z) (a b c : Int32) {v : Int32} (r : RF z 10 a b c v) : ∃ z2 : SpT, (OKz z2 ∧ VIS z0 z2) ∧ HW 9 1 6 240 l D cy t yL_call wc_call (wSp cy xa sa sb tr na ka z) (wSp cy xa sa sb tr na ka z2) [.ref (xa 0), .int (10 : Int32), .int a, .int b, .int c] v := by
  have v1 := call_vis (a := a) (b := b) (c := c) oz.1 10 (by decide) r.2
  have h := c_L_call_10 l hl0 D cy t xa sa sb tr na ka oz.1 a b c
  rw [r.1] at h
  exact ⟨_, ⟨v1.ok oz.1, oz.2.tr v1⟩, h⟩
theorem cn_11 (l : Launch) (hl0 : l.stackTraces = false) (D : va_G) (cy : Nat → ClassId) (t : FxA) (xa sa sb tr na : Nat → Nat) (ka : Nat → Nat → Nat) {z0 z : SpT} (oz : OKz z ∧ VIS z0 z) (a b c : Int32) {v : Int32} (r : RF z 11 a b c v) : ∃ z2 : SpT, (OKz z2 ∧ VIS z0 z2) ∧ HW 9 1 6 240 l D cy t yL_call wc_call (wSp cy xa sa sb tr na ka z) (wSp cy xa sa sb tr na ka z2) [.ref (xa 0), .int (11 : Int32), .int a, .int b, .int c] v := by
  have v1 := call_vis (a := a) (b := b) (c := c) oz.1 11 (by decide) r.2
  have h := c_L_call_11 l hl0 D cy t xa sa sb tr na ka oz.1 a b c
  rw [r.1] at h
  exact ⟨_, ⟨v1.ok oz.1, oz.2.tr v1⟩, h⟩
theorem cn_12 (l : Launch) (hl0 : l.stackTraces = false) (D : va_G) (cy : Nat → ClassId) (t : FxA) (xa sa sb tr na : Nat → Nat) (ka : Nat → Nat → Nat) {z0 z : SpT} (oz : OKz z ∧ VIS z0 z) (a b c : Int32) {v : Int32} (r : RF z 12 a b c v) : ∃ z2 : SpT, (OKz z2 ∧ VIS z0 z2) ∧ HW 9 1 6 240 l D cy t yL_call wc_call (wSp cy xa sa sb tr na ka z) (wSp cy xa sa sb tr na ka z2) [.ref (xa 0), .int (12 : Int32), .int a, .int b, .int c] v := by
  have v1 := call_vis (a := a) (b := b) (c := c) oz.1 12 (by decide) r.2
  have h := c_L_call_12 l hl0 D cy t xa sa sb tr na ka oz.1 a b c
  rw [r.1] at h
  exact ⟨_, ⟨v1.ok oz.1, oz.2.tr v1⟩, h⟩
theorem cn_13 (l : Launch) (hl0 : l.stackTraces = false) (D : va_G) (cy : Nat → ClassId) (t : FxA) (xa sa sb tr na : Nat → Nat) (ka : Nat → Nat → Nat) {z0 z : SpT} (oz : OKz z ∧ VIS z0 z) (a b c : Int32) {v : Int32} (r : RF z 13 a b c v) : ∃ z2 : SpT, (OKz z2 ∧ VIS z0 z2) ∧ HW 9 1 6 240 l D cy t yL_call wc_call (wSp cy xa sa sb tr na ka z) (wSp cy xa sa sb tr na ka z2) [.ref (xa 0), .int (13 : Int32), .int a, .int b, .int c] v := by
  have v1 := call_vis (a := a) (b := b) (c := c) oz.1 13 (by decide) r.2
  have h := c_L_call_13 l hl0 D cy t xa sa sb tr na ka oz.1 a b c
  rw [r.1] at h
  exact ⟨_, ⟨v1.ok oz.1, oz.2.tr v1⟩, h⟩
theorem cn_14 (l : Launch) (hl0 : l.stackTraces = false) (D : va_G) (cy : Nat → ClassId) (t : FxA) (xa sa sb tr na : Nat → Nat) (ka : Nat → Nat → Nat) {z0 z : SpT} (oz : OKz z ∧ VIS z0 z) (a b c : Int32) {v : Int32} (r : RF z 14 a b c v) : ∃ z2 : SpT, (OKz z2 ∧ VIS z0 z2) ∧ HW 9 1 6 240 l D cy t yL_call wc_call (wSp cy xa sa sb tr na ka z) (wSp cy xa sa sb tr na ka z2) [.ref (xa 0), .int (14 : Int32), .int a, .int b, .int c] v := by
  have v1 := call_vis (a := a) (b := b) (c := c) oz.1 14 (by decide) r.2
  have h := c_L_call_14 l hl0 D cy t xa sa sb tr na ka oz.1 a b c
  rw [r.1] at h
  exact ⟨_, ⟨v1.ok oz.1, oz.2.tr v1⟩, h⟩
theorem cn_15 (l : Launch) (hl0 : l.stackTraces = false) (D : va_G) (cy : Nat → ClassId) (t : FxA) (xa sa sb tr na : Nat → Nat) (ka : Nat → Nat → Nat) {z0 z : SpT} (oz : OKz z ∧ VIS z0 z) (a b c : Int32) {v : Int32} (r : RF z 15 a b c v) : ∃ z2 : SpT, (OKz z2 ∧ VIS z0 z2) ∧ HW 9 1 6 240 l D cy t yL_call wc_call (wSp cy xa sa sb tr na ka z) (wSp cy xa sa sb tr na ka z2) [.ref (xa 0), .int (15 : Int32), .int a, .int b, .int c] v := by
  have v1 := call_vis (a := a) (b := b) (c := c) oz.1 15 (by decide) r.2
  have h := c_L_call_15 l hl0 D cy t xa sa sb tr na ka oz.1 a b c
  rw [r.1] at h
  exact ⟨_, ⟨v1.ok oz.1, oz.2.tr v1⟩, h⟩
theorem cn_16 (l : Launch) (hl0 : l.stackTraces = false) (D : va_G) (cy : Nat → ClassId) (t : FxA) (xa sa sb tr na : Nat → Nat) (ka : Nat → Nat → Nat) {z0 z : SpT} (oz : OKz z ∧ VIS z0 z) (a b c : Int32) {v : Int32} (r : RF z 16 a b c v) : ∃ z2 : SpT, (OKz z2 ∧ VIS z0 z2) ∧ HW 9 1 6 240 l D cy t yL_call wc_call (wSp cy xa sa sb tr na ka z) (wSp cy xa sa sb tr na ka z2) [.ref (xa 0), .int (16 : Int32), .int a, .int b, .int c] v := by
  have v1 := call_vis (a := a) (b := b) (c := c) oz.1 16 (by decide) r.2
  have h := c_L_call_16 l hl0 D cy t xa sa sb tr na ka oz.1 a b c
  rw [r.1] at h
  exact ⟨_, ⟨v1.ok oz.1, oz.2.tr v1⟩, h⟩
theorem cn_17 (l : Launch) (hl0 : l.stackTraces = false) (D : va_G) (cy : Nat → ClassId) (t : FxA) (xa sa sb tr na : Nat → Nat) (ka : Nat → Nat → Nat) {z0 z : SpT} (oz : OKz z ∧ VIS z0 z) (a b c : Int32) {v : Int32} (r : RF z 17 a b c v) : ∃ z2 : SpT, (OKz z2 ∧ VIS z0 z2) ∧ HW 9 1 6 240 l D cy t yL_call wc_call (wSp cy xa sa sb tr na ka z) (wSp cy xa sa sb tr na ka z2) [.ref (xa 0), .int (17 : Int32), .int a, .int b, .int c] v := by
  have v1 := call_vis (a := a) (b := b) (c := c) oz.1 17 (by decide) r.2
  have h := c_L_call_17 l hl0 D cy t xa sa sb tr na ka oz.1 a b c
  rw [r.1] at h
  exact ⟨_, ⟨v1.ok oz.1, oz.2.tr v1⟩, h⟩
theorem cn_18 (l : Launch) (hl0 : l.stackTraces = false) (D : va_G) (cy : Nat → ClassId) (t : FxA) (xa sa sb tr na : Nat → Nat) (ka : Nat → Nat → Nat) {z0 z : SpT} (oz : OKz z ∧ VIS z0 z) (a b c : Int32) {v : Int32} (r : RF z 18 a b c v) : ∃ z2 : SpT, (OKz z2 ∧ VIS z0 z2) ∧ HW 9 1 6 240 l D cy t yL_call wc_call (wSp cy xa sa sb tr na ka z) (wSp cy xa sa sb tr na ka z2) [.ref (xa 0), .int (18 : Int32), .int a, .int b, .int c] v := by
  have v1 := call_vis (a := a) (b := b) (c := c) oz.1 18 (by decide) r.2
  have h := c_L_call_18 l hl0 D cy t xa sa sb tr na ka oz.1 a b c
  rw [r.1] at h
  exact ⟨_, ⟨v1.ok oz.1, oz.2.tr v1⟩, h⟩
theorem cn_19 (l : Launch) (hl0 : l.stackTraces = false) (D : va_G) (cy : Nat → ClassId) (t : FxA) (xa sa sb tr na : Nat → Nat) (ka : Nat → Nat → Nat) {z0 z : SpT} (oz : OKz z ∧ VIS z0 z) (a b c : Int32) {v : Int32} (r : RF z 19 a b c v) : ∃ z2 : SpT, (OKz z2 ∧ VIS z0 z2) ∧ HW 9 1 6 240 l D cy t yL_call wc_call (wSp cy xa sa sb tr na ka z) (wSp cy xa sa sb tr na ka z2) [.ref (xa 0), .int (19 : Int32), .int a, .int b, .int c] v := by
  have v1 := call_vis (a := a) (b := b) (c := c) oz.1 19 (by decide) r.2
  have h := c_L_call_19 l hl0 D cy t xa sa sb tr na ka oz.1 a b c
  rw [r.1] at h
  exact ⟨_, ⟨v1.ok oz.1, oz.2.tr v1⟩, h⟩
theorem cn_20 (l : Launch) (hl0 : l.stackTraces = false) (D : va_G) (cy : Nat → ClassId) (t : FxA) (xa sa sb tr na : Nat → Nat) (ka : Nat → Nat → Nat) {z0 z : SpT} (oz : OKz z ∧ VIS z0 z) (a b c : Int32) {v : Int32} (r : RF z 20 a b c v) : ∃ z2 : SpT, (OKz z2 ∧ VIS z0 z2) ∧ HW 9 1 6 240 l D cy t yL_call wc_call (wSp cy xa sa sb tr na ka z) (wSp cy xa sa sb tr na ka z2) [.ref (xa 0), .int (20 : Int32), .int a, .int b, .int c] v := by
  have v1 := call_vis (a := a) (b := b) (c := c) oz.1 20 (by decide) r.2
  have h := c_L_call_20 l hl0 D cy t xa sa sb tr na ka oz.1 a b c
  rw [r.1] at h
  exact ⟨_, ⟨v1.ok oz.1, oz.2.tr v1⟩, h⟩
theorem cn_21 (l : Launch) (hl0 : l.stackTraces = false) (D : va_G) (cy : Nat → ClassId) (t : FxA) (xa sa sb tr na : Nat → Nat) (ka : Nat → Nat → Nat) {z0 z : SpT} (oz : OKz z ∧ VIS z0 z) (a b c : Int32) {v : Int32} (r : RF z 21 a b c v) : ∃ z2 : SpT, (OKz z2 ∧ VIS z0 z2) ∧ HW 9 1 6 240 l D cy t yL_call wc_call (wSp cy xa sa sb tr na ka z) (wSp cy xa sa sb tr na ka z2) [.ref (xa 0), .int (21 : Int32), .int a, .int b, .int c] v := by
  have v1 := call_vis (a := a) (b := b) (c := c) oz.1 21 (by decide) r.2
  have h := c_L_call_21 l hl0 D cy t xa sa sb tr na ka oz.1 a b c
  rw [r.1] at h
  exact ⟨_, ⟨v1.ok oz.1, oz.2.tr v1⟩, h⟩
theorem cn_22 (l : Launch) (hl0 : l.stackTraces = false) (D : va_G) (cy : Nat → ClassId) (t : FxA) (xa sa sb tr na : Nat → Nat) (ka : Nat → Nat → Nat) {z0 z : SpT} (oz : OKz z ∧ VIS z0 z) (a b c : Int32) {v : Int32} (r : RF z 22 a b c v) : ∃ z2 : SpT, (OKz z2 ∧ VIS z0 z2) ∧ HW 9 1 6 240 l D cy t yL_call wc_call (wSp cy xa sa sb tr na ka z) (wSp cy xa sa sb tr na ka z2) [.ref (xa 0), .int (22 : Int32), .int a, .int b, .int c] v := by
  have v1 := call_vis (a := a) (b := b) (c := c) oz.1 22 (by decide) r.2
  have h := c_L_call_22 l hl0 D cy t xa sa sb tr na ka oz.1 a b c
  rw [r.1] at h
  exact ⟨_, ⟨v1.ok oz.1, oz.2.tr v1⟩, h⟩
theorem cn_23 (l : Launch) (hl0 : l.stackTraces = false) (D : va_G) (cy : Nat → ClassId) (t : FxA) (xa sa sb tr na : Nat → Nat) (ka : Nat → Nat → Nat) {z0 z : SpT} (oz : OKz z ∧ VIS z0 z) (a b c : Int32) {v : Int32} (r : RF z 23 a b c v) : ∃ z2 : SpT, (OKz z2 ∧ VIS z0 z2) ∧ HW 9 1 6 240 l D cy t yL_call wc_call (wSp cy xa sa sb tr na ka z) (wSp cy xa sa sb tr na ka z2) [.ref (xa 0), .int (23 : Int32), .int a, .int b, .int c] v := by
  have v1 := call_vis (a := a) (b := b) (c := c) oz.1 23 (by decide) r.2
  have h := c_L_call_23 l hl0 D cy t xa sa sb tr na ka oz.1 a b c
  rw [r.1] at h
  exact ⟨_, ⟨v1.ok oz.1, oz.2.tr v1⟩, h⟩
theorem cq_2 (l : Launch) (hl0 : l.stackTraces = false) (D : va_G) (cy : Nat → ClassId) (t : FxA) (xa sa sb tr na : Nat → Nat) (ka : Nat → Nat → Nat) {z : SpT} (oz : OKz z) (a b c : Int32) : HW 9 1 6 240 l D cy t yL_call wc_call (wSp cy xa sa sb tr na ka z) (wSp cy xa sa sb tr na ka z) [.ref (xa 0), .int (2 : Int32), .int a, .int b, .int c] (kV (callP z 2 a b c)) := by
  have h := c_L_call_2 l hl0 D cy t xa sa sb tr na ka oz a b c
  rw [show (callP z 2 a b c).2.2 = z from sm_about] at h
  exact h
theorem cq_3 (l : Launch) (hl0 : l.stackTraces = false) (D : va_G) (cy : Nat → ClassId) (t : FxA) (xa sa sb tr na : Nat → Nat) (ka : Nat → Nat → Nat) {z : SpT} (oz : OKz z) (a b c : Int32) : HW 9 1 6 240 l D cy t yL_call wc_call (wSp cy xa sa sb tr na ka z) (wSp cy xa sa sb tr na ka z) [.ref (xa 0), .int (3 : Int32), .int a, .int b, .int c] (kV (callP z 3 a b c)) := by
  have h := c_L_call_3 l hl0 D cy t xa sa sb tr na ka oz a b c
  rw [show (callP z 3 a b c).2.2 = z from sm_unit] at h
  exact h
theorem cq_4 (l : Launch) (hl0 : l.stackTraces = false) (D : va_G) (cy : Nat → ClassId) (t : FxA) (xa sa sb tr na : Nat → Nat) (ka : Nat → Nat → Nat) {z : SpT} (oz : OKz z) (a b c : Int32) : HW 9 1 6 240 l D cy t yL_call wc_call (wSp cy xa sa sb tr na ka z) (wSp cy xa sa sb tr na ka z) [.ref (xa 0), .int (4 : Int32), .int a, .int b, .int c] (kV (callP z 4 a b c)) := by
  have h := c_L_call_4 l hl0 D cy t xa sa sb tr na ka oz a b c
  rw [show (callP z 4 a b c).2.2 = z from sm_holder] at h
  exact h
theorem cq_5 (l : Launch) (hl0 : l.stackTraces = false) (D : va_G) (cy : Nat → ClassId) (t : FxA) (xa sa sb tr na : Nat → Nat) (ka : Nat → Nat → Nat) {z : SpT} (oz : OKz z) (a b c : Int32) : HW 9 1 6 240 l D cy t yL_call wc_call (wSp cy xa sa sb tr na ka z) (wSp cy xa sa sb tr na ka z) [.ref (xa 0), .int (5 : Int32), .int a, .int b, .int c] (kV (callP z 5 a b c)) := by
  have h := c_L_call_5 l hl0 D cy t xa sa sb tr na ka oz a b c
  rw [show (callP z 5 a b c).2.2 = z from sm_core] at h
  exact h
theorem cq_6 (l : Launch) (hl0 : l.stackTraces = false) (D : va_G) (cy : Nat → ClassId) (t : FxA) (xa sa sb tr na : Nat → Nat) (ka : Nat → Nat → Nat) {z : SpT} (oz : OKz z) (a b c : Int32) : HW 9 1 6 240 l D cy t yL_call wc_call (wSp cy xa sa sb tr na ka z) (wSp cy xa sa sb tr na ka z) [.ref (xa 0), .int (6 : Int32), .int a, .int b, .int c] (kV (callP z 6 a b c)) := by
  have h := c_L_call_6 l hl0 D cy t xa sa sb tr na ka oz a b c
  rw [show (callP z 6 a b c).2.2 = z from sm_setting] at h
  exact h
theorem cq_18 (l : Launch) (hl0 : l.stackTraces = false) (D : va_G) (cy : Nat → ClassId) (t : FxA) (xa sa sb tr na : Nat → Nat) (ka : Nat → Nat → Nat) {z : SpT} (oz : OKz z) (a b c : Int32) : HW 9 1 6 240 l D cy t yL_call wc_call (wSp cy xa sa sb tr na ka z) (wSp cy xa sa sb tr na ka z) [.ref (xa 0), .int (18 : Int32), .int a, .int b, .int c] (kV (callP z 18 a b c)) := by
  have h := c_L_call_18 l hl0 D cy t xa sa sb tr na ka oz a b c
  rw [show (callP z 18 a b c).2.2 = z from sm_complete] at h
  exact h
theorem cq_19 (l : Launch) (hl0 : l.stackTraces = false) (D : va_G) (cy : Nat → ClassId) (t : FxA) (xa sa sb tr na : Nat → Nat) (ka : Nat → Nat → Nat) {z : SpT} (oz : OKz z) (a b c : Int32) : HW 9 1 6 240 l D cy t yL_call wc_call (wSp cy xa sa sb tr na ka z) (wSp cy xa sa sb tr na ka z) [.ref (xa 0), .int (19 : Int32), .int a, .int b, .int c] (kV (callP z 19 a b c)) := by
  have h := c_L_call_19 l hl0 D cy t xa sa sb tr na ka oz a b c
  rw [show (callP z 19 a b c).2.2 = z from sm_takings] at h
  exact h
theorem cq_20 (l : Launch) (hl0 : l.stackTraces = false) (D : va_G) (cy : Nat → ClassId) (t : FxA) (xa sa sb tr na : Nat → Nat) (ka : Nat → Nat → Nat) {z : SpT} (oz : OKz z) (a b c : Int32) : HW 9 1 6 240 l D cy t yL_call wc_call (wSp cy xa sa sb tr na ka z) (wSp cy xa sa sb tr na ka z) [.ref (xa 0), .int (20 : Int32), .int a, .int b, .int c] (kV (callP z 20 a b c)) := by
  have h := c_L_call_20 l hl0 D cy t xa sa sb tr na ka oz a b c
  rw [show (callP z 20 a b c).2.2 = z from sm_bill] at h
  exact h
theorem cq_21 (l : Launch) (hl0 : l.stackTraces = false) (D : va_G) (cy : Nat → ClassId) (t : FxA) (xa sa sb tr na : Nat → Nat) (ka : Nat → Nat → Nat) {z : SpT} (oz : OKz z) (a b c : Int32) : HW 9 1 6 240 l D cy t yL_call wc_call (wSp cy xa sa sb tr na ka z) (wSp cy xa sa sb tr na ka z) [.ref (xa 0), .int (21 : Int32), .int a, .int b, .int c] (kV (callP z 21 a b c)) := by
  have h := c_L_call_21 l hl0 D cy t xa sa sb tr na ka oz a b c
  rw [show (callP z 21 a b c).2.2 = z from sm_cheapest] at h
  exact h
theorem co_owed (l : Launch) (hl0 : l.stackTraces = false) (D : va_G) (cy : Nat → ClassId) (t : FxA) (xa sa sb tr na : Nat → Nat) (ka : Nat → Nat → Nat) {z : SpT} (oz : OKz z) (a b c d : Int32) : HW 8 1 6 200 l D cy t yL_tryOwed wsL_tryOwed (wSp cy xa sa sb tr na ka z) (wSp cy xa sa sb tr na ka z) [.ref (xa 0), .int a, .int b, .int c, .int d] (kV (m_X8_owed z a b c d)) := by
  have h := c_L_tryOwed l hl0 D cy t xa sa sb tr na ka oz a b c d
  rw [sm_owed] at h
  exact h
theorem co_owed1 (l : Launch) (hl0 : l.stackTraces = false) (D : va_G) (cy : Nat → ClassId) (t : FxA) (xa sa sb tr na : Nat → Nat) (ka : Nat → Nat → Nat) {z : SpT} (oz : OKz z) (a b c d : Int32) (r : (m_X8_owed z a b c d).1 = 1) : HW 8 1 6 200 l D cy t yL_tryOwed wsL_tryOwed (wSp cy xa sa sb tr na ka z) (wSp cy xa sa sb tr na ka z) [.ref (xa 0), .int a, .int b, .int c, .int d] (-9999001) := by
  have h := co_owed l hl0 D cy t xa sa sb tr na ka oz a b c d
  rw [show kV (m_X8_owed z a b c d) = -9999001 by unfold kV; rw [r]; rfl] at h
  exact h
theorem cn_settle (l : Launch) (hl0 : l.stackTraces = false) (D : va_G) (cy : Nat → ClassId) (t : FxA) (xa sa sb tr na : Nat → Nat) (ka : Nat → Nat → Nat) {z0 z : SpT} (oz : OKz z ∧ VIS z0 z) (a b c d : Int32) {k : Nat} {v : Int32} (r : (m_X8_settle z a b c d).1 = k) (hk : (k = 1 ∧ v = -9999001) ∨ (k = 3 ∧ v = -9999003)) : ∃ z2 : SpT, (OKz z2 ∧ VIS z0 z2) ∧ HW 8 1 6 200 l D cy t yL_trySettle wsL_trySettle (wSp cy xa sa sb tr na ka z) (wSp cy xa sa sb tr na ka z2) [.ref (xa 0), .int a, .int b, .int c, .int d] v := by
  have nz : ¬ (m_X8_settle z a b c d).1 = 0 := by omega
  have v1 := vi_settle oz.1 nz
  have h := c_L_trySettle l hl0 D cy t xa sa sb tr na ka oz.1 a b c d
  rw [show kV (m_X8_settle z a b c d) = v by
    unfold kV
    rcases hk with ⟨e1, e2⟩ | ⟨e1, e2⟩
    · rw [r, e1, e2]; rfl
    · rw [r, e1, e2]; rfl] at h
  exact ⟨_, ⟨v1.ok oz.1, oz.2.tr v1⟩, h⟩
theorem cn_script (l : Launch) (hl0 : l.stackTraces = false) (D : va_G) (cy : Nat → ClassId) (t : FxA) (xa sa sb tr na : Nat → Nat) (ka : Nat → Nat → Nat) {z0 z : SpT} (oz : OKz z ∧ VIS z0 z) (a : Int32) (b : Int64) : ∃ z2 : SpT, (OKz z2 ∧ VIS z0 z2) ∧ HW 8 1 6 200 l D cy t yL_tryScript wsL_tryScript (wSp cy xa sa sb tr na ka z) (wSp cy xa sa sb tr na ka z2) [.ref (xa 0), .int a, .long b] (kV (m_X8_runScript z a b)) :=
  ⟨_, ⟨vi_runScript.ok oz.1, oz.2.tr vi_runScript⟩, c_L_tryScript l hl0 D cy t xa sa sb tr na ka oz.1 a b⟩
theorem cn_simulate (l : Launch) (hl0 : l.stackTraces = false) (D : va_G) (cy : Nat → ClassId) (t : FxA) (xa sa sb tr na : Nat → Nat) (ka : Nat → Nat → Nat) {z0 z : SpT} (oz : OKz z ∧ VIS z0 z) (a : Int64) (b : Int32) : ∃ z2 : SpT, (OKz z2 ∧ VIS z0 z2) ∧ HW 8 1 6 200 l D cy t yL_trySimulate wsL_trySimulate (wSp cy xa sa sb tr na ka z) (wSp cy xa sa sb tr na ka z2) [.ref (xa 0), .long a, .int b] (kV (m_X8_simulate z a b)) :=
  ⟨_, ⟨vi_simulate.ok oz.1, oz.2.tr vi_simulate⟩, c_L_trySimulate l hl0 D cy t xa sa sb tr na ka oz.1 a b⟩
theorem kv_2 {c : Nat × Int32 × SpT} (h : c.1 = 2) : kV c = -9999002 := by unfold kV; rw [h]; rfl
/-- what holds all through a method of the law -/
def LR (p : Program) (l : Launch) (s : State) (m : MethodId) (meth : Method) (c : Code) (args : Array Value) (cc : ByteArray) (nL : Nat) (Ts : List Cond) (ret : Option FieldType) (D : va_G) (cy : Nat → ClassId) (t : FxA) (A : Nat → Prop) : Prop :=
  p.tables.exec = Jvm.exec ∧ c.code = cc ∧ meth.sig.returnType = ret ∧ meth.locks = false ∧ (∀ w ∈ Ts, w.before args s = true) ∧ s.vm.findClass RL = some m.cls ∧ CallFix p m c cc nL s args Ts RL ∧ GK D cy s ∧ FX t A s s.heap ∧ (∀ q, s.heap.size ≤ q → A q) ∧ l.stackTraces = false
